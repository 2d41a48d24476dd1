def zs_c_Jxa1e45_init_da8c8 : List Cond := .code yJxa1e45_init_da8c8 cJxa1e45_init_da8c8 1 none :: (([.methodLink RJxa1e45 1 objectInit, .instanceMethod objectInit, .code objectInit ⟨#[0xb1]⟩ 1 none] : List Cond))
set_option maxHeartbeats 4000000 in
set_option maxRecDepth 100000 in
/-- AbstractCollection() -/
theorem c_Jxa1e45_init_da8c8 (l : Launch) (hnt : l.stackTraces = false) (dC : Nat → ClassId) (dI : Nat → Nat → Nat) (a0 : Nat) (h0 : Nat) (sz : Nat)  : Met l yJxa1e45_init_da8c8 zs_c_Jxa1e45_init_da8c8 ({ frames := 1, cells := 0, slots := 0, locals := 12 }) (va_Pc [.ref h0] (fun U => U.heap.size = sz ∧ va_P (dC, dI) vwCl [(h0, .inr (1, [.int 0, .null, .int 0]))] U.heap ∧ va_K (dC, dI) vwCl [] U ∧ va_D (fun _ => True) [(h0, .inr (1, [.int 0, .null, .int 0]))] ∧ zB a0 (va_A [(h0, .inr (1, [.int 0, .null, .int 0]))] sz) U U.heap)) (va_Qv (fun _ : Unit => True) (fun _ t => va_P (dC, dI) vwCl [(h0, .inr (1, [.int 0, .null, .int 0]))] t.heap ∧ va_K (dC, dI) vwCl [] t ∧ va_D (va_A [(h0, .inr (1, [.int 0, .null, .int 0]))] sz) [(h0, .inr (1, [.int 0, .null, .int 0]))]) (va_A [(h0, .inr (1, [.int 0, .null, .int 0]))] sz)) 0 0 (va_A [(h0, .inr (1, [.int 0, .null, .int 0]))] sz) := by
  refine Met.ofW (cc := cJxa1e45_init_da8c8) (maxL := 1) (ret := none) (by decide) rfl ?_
  intro p e s m args below meth c s₁ B hml hv
  obtain ⟨rfl, hsz, hP, hK, hD0, hZ⟩ := hv
  have hx := B.exec
  have hb := B.bytes
  have hr := B.returns
  have hts := atoms_spec (ws := zs_c_Jxa1e45_init_da8c8) B.pre
  have hown : s.vm.findClass RJxa1e45 = some m.cls := findClass_of_methodNamed B.named
  have hlocks := B.notSynchronized
  have hin : meth.name = "<init>" := (name_of_methodNamed B.named B.method).1
  subst hsz
  have hD := hD0.self (sz := s.heap.size)
  generalize hAe : va_A [(h0, .inr (1, [.int 0, .null, .int 0]))] s.heap.size = A at hD hZ ⊢
  have hA : ∀ q : Nat, s.heap.size ≤ q → A q := fun q h => by rw [← hAe]; exact Or.inr h
  have hS : va_S A s.heap s.heap [] := va_S.rf
  have hl := lv_entry ([.ref h0]) (n := 1) (Nat.le_of_ble_eq_true rfl)
  rw [lg_entry_eq]
  generalize (lg_sl ([.ref h0]) ++ List.replicate (1 - (lg_sl ([.ref h0])).length) Slot.unset).toArray = ls at hl ⊢
  have hl : lv_has ls 1 [(0, .ref h0)] := hl
  refine lv_aload_n hx hb dJxa1e45_init_da8c8_0 rfl (lv_at hl 0 rfl) ?_
  refine W.objInit hx hb hown (hts (.methodLink RJxa1e45 1 objectInit) (by decide +kernel)) (hts (.instanceMethod objectInit) (by decide +kernel)) (hts (.code objectInit ⟨#[0xb1]⟩ 1 none) (by decide +kernel)) rfl (by rw [hml]; exact hl.1) rfl dJxa1e45_init_da8c8_1 (Nat.le_of_ble_eq_true rfl) (Nat.le_of_ble_eq_true rfl) ?_
  refine W.eq (g2 := F0 m 4 ls []) rfl ?_
  have hP9 := hP.sub (ws' := [(h0, .inr (1, [.int 0, .null, .int 0]))]) [0] rfl
  have hD9 := hD.sub (ws' := [(h0, .inr (1, [.int 0, .null, .int 0]))]) [0] (by decide) rfl
  have hK9 := hK.sub (tys' := []) [] rfl
  refine W.widen (k := 0) (n := 0) (Nat.le_of_ble_eq_true rfl) (Nat.le_of_ble_eq_true rfl) ?_
  exact W.vret hx hb hr (fun t ht hW => ⟨⟨(), rfl, trivial, ⟨by rw [ht]; exact hP9, va_K.moved hW.alike hK9, hD9⟩⟩, hS.F ht⟩) hS.2.2 dJxa1e45_init_da8c8_4

def zs_c_Jxc12de_init_da8c8 : List Cond := .code yJxc12de_init_da8c8 cJxc12de_init_da8c8 1 none :: (([.code yJxa1e45_init_da8c8 cJxa1e45_init_da8c8 1 none, .methodLink RJxa1e45 1 objectInit, .instanceMethod objectInit, .code objectInit ⟨#[0xb1]⟩ 1 none, .methodLink RJxc12de 1 yJxa1e45_init_da8c8, .instanceMethod yJxa1e45_init_da8c8, .initialized RJxa1e45, .fieldLink RJxc12de 7 "java/util/AbstractList" "modCount" "I"] : List Cond) ++ wsJx4a65c0)
set_option maxHeartbeats 4000000 in
set_option maxRecDepth 100000 in
/-- AbstractList() -/
theorem c_Jxc12de_init_da8c8 (l : Launch) (hnt : l.stackTraces = false) (dC : Nat → ClassId) (dI : Nat → Nat → Nat) (a0 : Nat) (h0 : Nat) (sz : Nat)  : Met l yJxc12de_init_da8c8 zs_c_Jxc12de_init_da8c8 ({ frames := 2, cells := 0, slots := 0, locals := 32 }) (va_Pc [.ref h0] (fun U => U.heap.size = sz ∧ va_P (dC, dI) vwCl [(h0, .inr (1, [.int 0, .null, .int 0]))] U.heap ∧ va_K (dC, dI) vwCl [] U ∧ va_D (fun _ => True) [(h0, .inr (1, [.int 0, .null, .int 0]))] ∧ zB a0 (va_A [(h0, .inr (1, [.int 0, .null, .int 0]))] sz) U U.heap)) (va_Qv (fun _ : Unit => True) (fun _ t => va_P (dC, dI) vwCl [(h0, .inr (1, [.int 0, .null, .int 0]))] t.heap ∧ va_K (dC, dI) vwCl [] t ∧ va_D (va_A [(h0, .inr (1, [.int 0, .null, .int 0]))] sz) [(h0, .inr (1, [.int 0, .null, .int 0]))]) (va_A [(h0, .inr (1, [.int 0, .null, .int 0]))] sz)) 0 0 (va_A [(h0, .inr (1, [.int 0, .null, .int 0]))] sz) := by
  refine Met.ofW (cc := cJxc12de_init_da8c8) (maxL := 1) (ret := none) (by decide) rfl ?_
  intro p e s m args below meth c s₁ B hml hv
  obtain ⟨rfl, hsz, hP, hK, hD0, hZ⟩ := hv
  have hx := B.exec
  have hb := B.bytes
  have hr := B.returns
  have hts := atoms_spec (ws := zs_c_Jxc12de_init_da8c8) B.pre
  have hown : s.vm.findClass RJxc12de = some m.cls := findClass_of_methodNamed B.named
  have hlocks := B.notSynchronized
  have hin : meth.name = "<init>" := (name_of_methodNamed B.named B.method).1
  have hiJx4a65c : ∀ w ∈ wsJx4a65c0, w ∈ zs_c_Jxc12de_init_da8c8 := by decide +kernel
  subst hsz
  have hD := hD0.self (sz := s.heap.size)
  generalize hAe : va_A [(h0, .inr (1, [.int 0, .null, .int 0]))] s.heap.size = A at hD hZ ⊢
  have hA : ∀ q : Nat, s.heap.size ≤ q → A q := fun q h => by rw [← hAe]; exact Or.inr h
  have hS : va_S A s.heap s.heap [] := va_S.rf
  have hl := lv_entry ([.ref h0]) (n := 1) (Nat.le_of_ble_eq_true rfl)
  rw [lg_entry_eq]
  generalize (lg_sl ([.ref h0]) ++ List.replicate (1 - (lg_sl ([.ref h0])).length) Slot.unset).toArray = ls at hl ⊢
  have hl : lv_has ls 1 [(0, .ref h0)] := hl
  refine lv_aload_n hx hb dJxc12de_init_da8c8_0 rfl (lv_at hl 0 rfl) ?_
  have hPc := hP.sub (ws' := [(h0, .inr (1, [.int 0, .null, .int 0]))]) [0] rfl
  have hDc := hD.sub (ws' := [(h0, .inr (1, [.int 0, .null, .int 0]))]) [0] (by decide) rfl
  have hKc := hK.sub (tys' := []) [] rfl
  have hFc := va_free (wc := [(h0, .inr (1, [.int 0, .null, .int 0]))]) hD hS hA [0] rfl
  have hZc := ((hZ.kept hS.2.1).narrow hFc)
  refine va_callv (va_runI (As := []) (rest := []) ⟨hx, hb, hml, hown, hts⟩ (c_Jxa1e45_init_da8c8 l hnt dC dI a0 h0 s.heap.size ) (cwI 0 hts (goodIn_of _ (by decide +kernel)) rfl rfl rfl (hts (.initialized RJxa1e45) (by decide +kernel)) (hts (.methodLink RJxc12de 1 yJxa1e45_init_da8c8) (by decide +kernel)) (hts (.instanceMethod yJxa1e45_init_da8c8) (by decide +kernel)) rfl (by decide +kernel) ⟨Nat.le_of_ble_eq_true rfl, Nat.le_of_ble_eq_true rfl⟩) ⟨fun a U g mk q => by obtain ⟨q0, q1, qP, qK, qD, qZ⟩ := q; exact ⟨q0, q1, qP, va_K.moved (u := U) (U := U.calling g mk a) (Vm.Alike.refl U.vm) qK, qD, qZ.call⟩, fun U hU hW => ⟨rfl, by rw [hU], by rw [hU]; exact hPc, va_K.moved hW.alike hKc, hDc.weaken (fun _ _ _ _ => trivial), by rw [hU]; exact hZc.warm hW⟩⟩ rfl rfl hl.1 rfl (lv_room (Nat.le_of_ble_eq_true rfl)) dJxc12de_init_da8c8_1 ⟨Nat.le_of_ble_eq_true rfl, Nat.le_of_ble_eq_true rfl⟩) hS (fun q _ h => hFc q h) hFc (fun u t H1 locs ht hvm hw hB hz1 hk1 hS => ?_)
  obtain ⟨hP1, hK1, hD1⟩ := hB
  rw [ht] at hP1
  have hK1 := va_K.moved hvm.symm hK1
  obtain ⟨hP, hD⟩ := va_join (wr := []) (w1 := [(h0, .inr (1, [.int 0, .null, .int 0]))]) hP hD [0] [] rfl rfl (by decide) (by decide) hk1 hFc hP1 hD1
  have hK := (hK.sub (tys' := []) [] rfl).app hK1
  generalize H1 = H at hP hS ⊢
  have hP : va_P (dC, dI) vwCl [(h0, .inr (1, [.int 0, .null, .int 0]))] H := hP
  have hD : va_D A [(h0, .inr (1, [.int 0, .null, .int 0]))] := hD
  have hK : va_K (dC, dI) vwCl [] s := hK
  refine W.widen (k := 0) (n := 0) (Nat.le_of_ble_eq_true rfl) (Nat.le_of_ble_eq_true rfl) ?_
  refine lv_aload_n hx hb dJxc12de_init_da8c8_4 rfl (lv_at hl 0 rfl) ?_
  refine lv_iconst (v := 0) hx hb dJxc12de_init_da8c8_5 (by decide) ?_
  refine va_put (D := (dC, dI)) (ci := 1) (v := .int 0) (ty := .int) (C := RJx4a65c) (T := TJx4a65c) (N := 3) hx hb hts hiJx4a65c tyJx4a65c tyJx4a65c_ok nmJx4a65c hown hK hP hD hS 0 rfl rfl 0 (by decide) (hts (.fieldLink RJxc12de 7 "java/util/AbstractList" "modCount" "I") (by decide +kernel)) (fun _ h9 => h9) rfl (by decide +kernel) rfl rfl (Nat.le_of_ble_eq_true rfl) dJxc12de_init_da8c8_6 (fun H locs hP hD hS => ?_)
  have hP : va_P (dC, dI) vwCl [(h0, .inr (1, [.int 0, .null, .int 0]))] H := hP
  have hD : va_D A [(h0, .inr (1, [.int 0, .null, .int 0]))] := hD
  have hP9 := hP.sub (ws' := [(h0, .inr (1, [.int 0, .null, .int 0]))]) [0] rfl
  have hD9 := hD.sub (ws' := [(h0, .inr (1, [.int 0, .null, .int 0]))]) [0] (by decide) rfl
  have hK9 := hK.sub (tys' := []) [] rfl
  refine W.widen (k := 0) (n := 0) (Nat.le_of_ble_eq_true rfl) (Nat.le_of_ble_eq_true rfl) ?_
  exact W.vret hx hb hr (fun t ht hW => ⟨⟨(), rfl, trivial, ⟨by rw [ht]; exact hP9, va_K.moved hW.alike hK9, hD9⟩⟩, hS.F ht⟩) hS.2.2 dJxc12de_init_da8c8_9

def zs_c_Jx4a65c_init_da8c8 : List Cond := .code yJx4a65c_init_da8c8 cJx4a65c_init_da8c8 1 none :: (([.code yJxc12de_init_da8c8 cJxc12de_init_da8c8 1 none, .code yJxa1e45_init_da8c8 cJxa1e45_init_da8c8 1 none, .methodLink RJxa1e45 1 objectInit, .instanceMethod objectInit, .code objectInit ⟨#[0xb1]⟩ 1 none, .methodLink RJxc12de 1 yJxa1e45_init_da8c8, .instanceMethod yJxa1e45_init_da8c8, .initialized RJxa1e45, .fieldLink RJxc12de 7 "java/util/AbstractList" "modCount" "I", .methodLink RJx4a65c 1 yJxc12de_init_da8c8, .instanceMethod yJxc12de_init_da8c8, .initialized RJxc12de, .fieldLink RJx4a65c 39 "java/util/ArrayList" "DEFAULTCAPACITY_EMPTY_ELEMENTDATA" "[Ljava/lang/Object;", .fieldLink RJx4a65c 9 "java/util/ArrayList" "elementData" "[Ljava/lang/Object;"] : List Cond) ++ wsJx4a65c0)
set_option maxHeartbeats 4000000 in
set_option maxRecDepth 100000 in
/-- ArrayList() -/
theorem c_Jx4a65c_init_da8c8 (l : Launch) (hnt : l.stackTraces = false) (dC : Nat → ClassId) (dI : Nat → Nat → Nat) (a0 : Nat) (h0 : Nat) (sz : Nat)  : Met l yJx4a65c_init_da8c8 zs_c_Jx4a65c_init_da8c8 ({ frames := 3, cells := 0, slots := 0, locals := 52 }) (va_Pc [.ref h0] (fun U => U.heap.size = sz ∧ va_P (dC, dI) vwCl [(h0, .inr (1, [.int 0, .null, .int 0]))] U.heap ∧ va_K (dC, dI) vwCl [] U ∧ va_D (fun _ => True) [(h0, .inr (1, [.int 0, .null, .int 0]))] ∧ zB a0 (va_A [(h0, .inr (1, [.int 0, .null, .int 0]))] sz) U U.heap)) (va_Qv (fun _ : Unit => True) (fun _ t => va_P (dC, dI) vwCl [(h0, .inr (1, [.int 0, .ref a0, .int 0]))] t.heap ∧ va_K (dC, dI) vwCl [] t ∧ va_D (va_A [(h0, .inr (1, [.int 0, .null, .int 0]))] sz) [(h0, .inr (1, [.int 0, .ref a0, .int 0]))]) (va_A [(h0, .inr (1, [.int 0, .null, .int 0]))] sz)) 0 0 (va_A [(h0, .inr (1, [.int 0, .null, .int 0]))] sz) := by
  refine Met.ofW (cc := cJx4a65c_init_da8c8) (maxL := 1) (ret := none) (by decide) rfl ?_
  intro p e s m args below meth c s₁ B hml hv
  obtain ⟨rfl, hsz, hP, hK, hD0, hZ⟩ := hv
  have hx := B.exec
  have hb := B.bytes
  have hr := B.returns
  have hts := atoms_spec (ws := zs_c_Jx4a65c_init_da8c8) B.pre
  have hown : s.vm.findClass RJx4a65c = some m.cls := findClass_of_methodNamed B.named
  have hlocks := B.notSynchronized
  have hin : meth.name = "<init>" := (name_of_methodNamed B.named B.method).1
  have hiJx4a65c : ∀ w ∈ wsJx4a65c0, w ∈ zs_c_Jx4a65c_init_da8c8 := by decide +kernel
  subst hsz
  have hD := hD0.self (sz := s.heap.size)
  generalize hAe : va_A [(h0, .inr (1, [.int 0, .null, .int 0]))] s.heap.size = A at hD hZ ⊢
  have hA : ∀ q : Nat, s.heap.size ≤ q → A q := fun q h => by rw [← hAe]; exact Or.inr h
  have hS : va_S A s.heap s.heap [] := va_S.rf
  have hl := lv_entry ([.ref h0]) (n := 1) (Nat.le_of_ble_eq_true rfl)
  rw [lg_entry_eq]
  generalize (lg_sl ([.ref h0]) ++ List.replicate (1 - (lg_sl ([.ref h0])).length) Slot.unset).toArray = ls at hl ⊢
  have hl : lv_has ls 1 [(0, .ref h0)] := hl
  refine lv_aload_n hx hb dJx4a65c_init_da8c8_0 rfl (lv_at hl 0 rfl) ?_
  have hPc := hP.sub (ws' := [(h0, .inr (1, [.int 0, .null, .int 0]))]) [0] rfl
  have hDc := hD.sub (ws' := [(h0, .inr (1, [.int 0, .null, .int 0]))]) [0] (by decide) rfl
  have hKc := hK.sub (tys' := []) [] rfl
  have hFc := va_free (wc := [(h0, .inr (1, [.int 0, .null, .int 0]))]) hD hS hA [0] rfl
  have hZc := ((hZ.kept hS.2.1).narrow hFc)
  refine va_callv (va_runI (As := []) (rest := []) ⟨hx, hb, hml, hown, hts⟩ (c_Jxc12de_init_da8c8 l hnt dC dI a0 h0 s.heap.size ) (cwI 0 hts (goodIn_of _ (by decide +kernel)) rfl rfl rfl (hts (.initialized RJxc12de) (by decide +kernel)) (hts (.methodLink RJx4a65c 1 yJxc12de_init_da8c8) (by decide +kernel)) (hts (.instanceMethod yJxc12de_init_da8c8) (by decide +kernel)) rfl (by decide +kernel) ⟨Nat.le_of_ble_eq_true rfl, Nat.le_of_ble_eq_true rfl⟩) ⟨fun a U g mk q => by obtain ⟨q0, q1, qP, qK, qD, qZ⟩ := q; exact ⟨q0, q1, qP, va_K.moved (u := U) (U := U.calling g mk a) (Vm.Alike.refl U.vm) qK, qD, qZ.call⟩, fun U hU hW => ⟨rfl, by rw [hU], by rw [hU]; exact hPc, va_K.moved hW.alike hKc, hDc.weaken (fun _ _ _ _ => trivial), by rw [hU]; exact hZc.warm hW⟩⟩ rfl rfl hl.1 rfl (lv_room (Nat.le_of_ble_eq_true rfl)) dJx4a65c_init_da8c8_1 ⟨Nat.le_of_ble_eq_true rfl, Nat.le_of_ble_eq_true rfl⟩) hS (fun q _ h => hFc q h) hFc (fun u t H1 locs ht hvm hw hB hz1 hk1 hS => ?_)
  obtain ⟨hP1, hK1, hD1⟩ := hB
  rw [ht] at hP1
  have hK1 := va_K.moved hvm.symm hK1
  obtain ⟨hP, hD⟩ := va_join (wr := []) (w1 := [(h0, .inr (1, [.int 0, .null, .int 0]))]) hP hD [0] [] rfl rfl (by decide) (by decide) hk1 hFc hP1 hD1
  have hK := (hK.sub (tys' := []) [] rfl).app hK1
  generalize H1 = H at hP hS ⊢
  have hP : va_P (dC, dI) vwCl [(h0, .inr (1, [.int 0, .null, .int 0]))] H := hP
  have hD : va_D A [(h0, .inr (1, [.int 0, .null, .int 0]))] := hD
  have hK : va_K (dC, dI) vwCl [] s := hK
  refine W.widen (k := 0) (n := 0) (Nat.le_of_ble_eq_true rfl) (Nat.le_of_ble_eq_true rfl) ?_
  refine lv_aload_n hx hb dJx4a65c_init_da8c8_4 rfl (lv_at hl 0 rfl) ?_
  refine va_gets hx hb hZ.st hS hown (hts (.fieldLink RJx4a65c 39 "java/util/ArrayList" "DEFAULTCAPACITY_EMPTY_ELEMENTDATA" "[Ljava/lang/Object;") (by decide +kernel)) (fun _ h9 => h9) dJx4a65c_init_da8c8_5 ?_
  refine va_put (D := (dC, dI)) (ci := 1) (v := .ref a0) (ty := .array (.object "java/lang/Object")) (C := RJx4a65c) (T := TJx4a65c) (N := 3) hx hb hts hiJx4a65c tyJx4a65c tyJx4a65c_ok nmJx4a65c hown hK hP hD hS 0 rfl rfl 1 (by decide) (hts (.fieldLink RJx4a65c 9 "java/util/ArrayList" "elementData" "[Ljava/lang/Object;") (by decide +kernel)) (fun _ h9 => h9) rfl (by decide +kernel) rfl rfl (Nat.le_of_ble_eq_true rfl) dJx4a65c_init_da8c8_8 (fun H locs hP hD hS => ?_)
  have hP : va_P (dC, dI) vwCl [(h0, .inr (1, [.int 0, .ref a0, .int 0]))] H := hP
  have hD : va_D A [(h0, .inr (1, [.int 0, .ref a0, .int 0]))] := hD
  have hP9 := hP.sub (ws' := [(h0, .inr (1, [.int 0, .ref a0, .int 0]))]) [0] rfl
  have hD9 := hD.sub (ws' := [(h0, .inr (1, [.int 0, .ref a0, .int 0]))]) [0] (by decide) rfl
  have hK9 := hK.sub (tys' := []) [] rfl
  refine W.widen (k := 0) (n := 0) (Nat.le_of_ble_eq_true rfl) (Nat.le_of_ble_eq_true rfl) ?_
  exact W.vret hx hb hr (fun t ht hW => ⟨⟨(), rfl, trivial, ⟨by rw [ht]; exact hP9, va_K.moved hW.alike hK9, hD9⟩⟩, hS.F ht⟩) hS.2.2 dJx4a65c_init_da8c8_11

def zs_c_X10_init : List Cond := .code yX10_init cX10_init 1 none :: (([.methodLink RX10 1 objectInit, .instanceMethod objectInit, .code objectInit ⟨#[0xb1]⟩ 1 none, .classLink RX10 7 RJx4a65c, .instantiable RJx4a65c 3, .initialized RJx4a65c, .code yJx4a65c_init_da8c8 cJx4a65c_init_da8c8 1 none, .code yJxc12de_init_da8c8 cJxc12de_init_da8c8 1 none, .code yJxa1e45_init_da8c8 cJxa1e45_init_da8c8 1 none, .methodLink RJxa1e45 1 objectInit, .methodLink RJxc12de 1 yJxa1e45_init_da8c8, .instanceMethod yJxa1e45_init_da8c8, .initialized RJxa1e45, .fieldLink RJxc12de 7 "java/util/AbstractList" "modCount" "I", .methodLink RJx4a65c 1 yJxc12de_init_da8c8, .instanceMethod yJxc12de_init_da8c8, .initialized RJxc12de, .fieldLink RJx4a65c 39 "java/util/ArrayList" "DEFAULTCAPACITY_EMPTY_ELEMENTDATA" "[Ljava/lang/Object;", .fieldLink RJx4a65c 9 "java/util/ArrayList" "elementData" "[Ljava/lang/Object;", .methodLink RX10 9 yJx4a65c_init_da8c8, .instanceMethod yJx4a65c_init_da8c8, .fieldLink RX10 10 "HaltingaleModel" "machines" "Ljava/util/ArrayList;", .fieldLink RX10 16 "HaltingaleModel" "tags" "Ljava/util/ArrayList;"] : List Cond) ++ wsJx4a65c0 ++ wsX100)
set_option maxHeartbeats 4000000 in
set_option maxRecDepth 100000 in
/-- HaltingaleModel() -/
theorem c_X10_init (l : Launch) (hnt : l.stackTraces = false) (dC : Nat → ClassId) (dI : Nat → Nat → Nat) (a0 : Nat) (m0 : Nat) (sz : Nat)  : Met l yX10_init zs_c_X10_init ({ frames := 4, cells := 2, slots := 6, locals := 72 }) (va_Pc [.ref m0] (fun U => U.heap.size = sz ∧ va_P (dC, dI) vwCl [(m0, .inr (12, [.int 0, .null, .null, .int 0, .int 0, .int 0, .long 0]))] U.heap ∧ va_K (dC, dI) vwCl [] U ∧ va_D (fun _ => True) [(m0, .inr (12, [.int 0, .null, .null, .int 0, .int 0, .int 0, .long 0]))] ∧ zB a0 (va_A [(m0, .inr (12, [.int 0, .null, .null, .int 0, .int 0, .int 0, .long 0]))] sz) U U.heap)) (va_Qv (fun _ : Unit => True) (fun _ t => ∃ (l1 : Nat) (l2 : Nat), va_P (dC, dI) vwCl [(m0, .inr (12, [.int 0, .ref l1, .ref l2, .int 0, .int 0, .int 0, .long 0])), (l1, .inr (1, [.int 0, .ref a0, .int 0])), (l2, .inr (1, [.int 0, .ref a0, .int 0]))] t.heap ∧ va_K (dC, dI) vwCl [] t ∧ va_D (va_A [(m0, .inr (12, [.int 0, .null, .null, .int 0, .int 0, .int 0, .long 0]))] sz) [(m0, .inr (12, [.int 0, .ref l1, .ref l2, .int 0, .int 0, .int 0, .long 0])), (l1, .inr (1, [.int 0, .ref a0, .int 0])), (l2, .inr (1, [.int 0, .ref a0, .int 0]))]) (va_A [(m0, .inr (12, [.int 0, .null, .null, .int 0, .int 0, .int 0, .long 0]))] sz)) 2 6 (va_A [(m0, .inr (12, [.int 0, .null, .null, .int 0, .int 0, .int 0, .long 0]))] sz) := by
  refine Met.ofW (cc := cX10_init) (maxL := 1) (ret := none) (by decide) rfl ?_
  intro p e s m args below meth c s₁ B hml hv
  obtain ⟨rfl, hsz, hP, hK, hD0, hZ⟩ := hv
  have hx := B.exec
  have hb := B.bytes
  have hr := B.returns
  have hts := atoms_spec (ws := zs_c_X10_init) B.pre
  have hown : s.vm.findClass RX10 = some m.cls := findClass_of_methodNamed B.named
  have hlocks := B.notSynchronized
  have hin : meth.name = "<init>" := (name_of_methodNamed B.named B.method).1
  have hiJx4a65c : ∀ w ∈ wsJx4a65c0, w ∈ zs_c_X10_init := by decide +kernel
  have hiX10 : ∀ w ∈ wsX100, w ∈ zs_c_X10_init := by decide +kernel
  subst hsz
  have hD := hD0.self (sz := s.heap.size)
  generalize hAe : va_A [(m0, .inr (12, [.int 0, .null, .null, .int 0, .int 0, .int 0, .long 0]))] s.heap.size = A at hD hZ ⊢
  have hA : ∀ q : Nat, s.heap.size ≤ q → A q := fun q h => by rw [← hAe]; exact Or.inr h
  have hS : va_S A s.heap s.heap [] := va_S.rf
  have hl := lv_entry ([.ref m0]) (n := 1) (Nat.le_of_ble_eq_true rfl)
  rw [lg_entry_eq]
  generalize (lg_sl ([.ref m0]) ++ List.replicate (1 - (lg_sl ([.ref m0])).length) Slot.unset).toArray = ls at hl ⊢
  have hl : lv_has ls 1 [(0, .ref m0)] := hl
  refine lv_aload_n hx hb dX10_init_0 rfl (lv_at hl 0 rfl) ?_
  refine W.objInit hx hb hown (hts (.methodLink RX10 1 objectInit) (by decide +kernel)) (hts (.instanceMethod objectInit) (by decide +kernel)) (hts (.code objectInit ⟨#[0xb1]⟩ 1 none) (by decide +kernel)) rfl (by rw [hml]; exact hl.1) rfl dX10_init_1 (Nat.le_of_ble_eq_true rfl) (Nat.le_of_ble_eq_true rfl) ?_
  refine W.eq (g2 := F0 m 4 ls []) rfl ?_
  refine lv_aload_n hx hb dX10_init_4 rfl (lv_at hl 0 rfl) ?_
  refine va_new (ci := 1) (fs := [.int 0, .null, .int 0]) (C := RJx4a65c) (T := TJx4a65c) (N := 3) hx hb hts hiJx4a65c tyJx4a65c tyJx4a65c_ok hown (hts (.classLink RX10 7 RJx4a65c) (by decide +kernel)) (hts (.instantiable RJx4a65c 3) (by decide +kernel)) (hts (.initialized RJx4a65c) (by decide +kernel)) hK hP hD hS hA rfl (fun j hj => by rcases (show j = 0 ∨ j = 1 ∨ j = 2 by omega) with rfl | rfl | rfl <;> rfl) (Nat.le_of_ble_eq_true rfl) (Nat.le_of_ble_eq_true rfl) dX10_init_5 (fun q_1 H hP hD hS => ?_)
  have hP : va_P (dC, dI) vwCl [(m0, .inr (12, [.int 0, .null, .null, .int 0, .int 0, .int 0, .long 0])), (q_1, .inr (1, [.int 0, .null, .int 0]))] H := hP
  have hD : va_D A [(m0, .inr (12, [.int 0, .null, .null, .int 0, .int 0, .int 0, .long 0])), (q_1, .inr (1, [.int 0, .null, .int 0]))] := hD
  refine W.widen (k := 1) (n := 3) (Nat.le_of_ble_eq_true rfl) (Nat.le_of_ble_eq_true rfl) ?_
  refine lv_dup hx hb dX10_init_8 rfl ?_
  have hPc := hP.sub (ws' := [(q_1, .inr (1, [.int 0, .null, .int 0]))]) [1] rfl
  have hDc := hD.sub (ws' := [(q_1, .inr (1, [.int 0, .null, .int 0]))]) [1] (by decide) rfl
  have hKc := hK.sub (tys' := []) [] rfl
  have hFc := va_free (wc := [(q_1, .inr (1, [.int 0, .null, .int 0]))]) hD hS hA [1] rfl
  have hZc := ((hZ.kept hS.2.1).narrow hFc)
  refine va_callv (va_runI (As := []) (rest := [.ref q_1, .ref m0]) ⟨hx, hb, hml, hown, hts⟩ (c_Jx4a65c_init_da8c8 l hnt dC dI a0 q_1 H.size ) (cwI 0 hts (goodIn_of _ (by decide +kernel)) rfl rfl rfl (hts (.initialized RJx4a65c) (by decide +kernel)) (hts (.methodLink RX10 9 yJx4a65c_init_da8c8) (by decide +kernel)) (hts (.instanceMethod yJx4a65c_init_da8c8) (by decide +kernel)) rfl (by decide +kernel) ⟨Nat.le_of_ble_eq_true rfl, Nat.le_of_ble_eq_true rfl⟩) ⟨fun a U g mk q => by obtain ⟨q0, q1, qP, qK, qD, qZ⟩ := q; exact ⟨q0, q1, qP, va_K.moved (u := U) (U := U.calling g mk a) (Vm.Alike.refl U.vm) qK, qD, qZ.call⟩, fun U hU hW => ⟨rfl, by rw [hU], by rw [hU]; exact hPc, va_K.moved hW.alike hKc, hDc.weaken (fun _ _ _ _ => trivial), by rw [hU]; exact hZc.warm hW⟩⟩ rfl rfl hl.1 rfl (lv_room (Nat.le_of_ble_eq_true rfl)) dX10_init_9 ⟨Nat.le_of_ble_eq_true rfl, Nat.le_of_ble_eq_true rfl⟩) hS (fun q _ h => hFc q h) hFc (fun u t H1 locs ht hvm hw hB hz1 hk1 hS => ?_)
  obtain ⟨hP1, hK1, hD1⟩ := hB
  rw [ht] at hP1
  have hK1 := va_K.moved hvm.symm hK1
  obtain ⟨hP, hD⟩ := va_join (wr := [(m0, .inr (12, [.int 0, .null, .null, .int 0, .int 0, .int 0, .long 0]))]) (w1 := [(q_1, .inr (1, [.int 0, .ref a0, .int 0]))]) hP hD [1] [0] rfl rfl (by decide) (by decide) hk1 hFc hP1 hD1
  have hK := (hK.sub (tys' := []) [] rfl).app hK1
  generalize H1 = H at hP hS ⊢
  have hP : va_P (dC, dI) vwCl [(m0, .inr (12, [.int 0, .null, .null, .int 0, .int 0, .int 0, .long 0])), (q_1, .inr (1, [.int 0, .ref a0, .int 0]))] H := hP
  have hD : va_D A [(m0, .inr (12, [.int 0, .null, .null, .int 0, .int 0, .int 0, .long 0])), (q_1, .inr (1, [.int 0, .ref a0, .int 0]))] := hD
  have hK : va_K (dC, dI) vwCl [] s := hK
  refine W.widen (k := 1) (n := 3) (Nat.le_of_ble_eq_true rfl) (Nat.le_of_ble_eq_true rfl) ?_
  refine va_putF (D := (dC, dI)) (ci := 12) (v := .ref q_1) (ty := .object "java/util/ArrayList") (C := RX10) (T := TX10) (N := 7) hx hb hts hiX10 tyX10 tyX10_ok nmX10 hown hK hP hD hS 0 rfl rfl 1 (by decide) (hts (.fieldLink RX10 10 "HaltingaleModel" "machines" "Ljava/util/ArrayList;") (by decide +kernel)) (fun _ h9 => h9) rfl hin rfl (by decide +kernel) rfl rfl (Nat.le_of_ble_eq_true rfl) dX10_init_12 (fun H locs hP hD hS => ?_)
  have hP : va_P (dC, dI) vwCl [(m0, .inr (12, [.int 0, .ref q_1, .null, .int 0, .int 0, .int 0, .long 0])), (q_1, .inr (1, [.int 0, .ref a0, .int 0]))] H := hP
  have hD : va_D A [(m0, .inr (12, [.int 0, .ref q_1, .null, .int 0, .int 0, .int 0, .long 0])), (q_1, .inr (1, [.int 0, .ref a0, .int 0]))] := hD
  refine lv_aload_n hx hb dX10_init_15 rfl (lv_at hl 0 rfl) ?_
  refine va_new (ci := 1) (fs := [.int 0, .null, .int 0]) (C := RJx4a65c) (T := TJx4a65c) (N := 3) hx hb hts hiJx4a65c tyJx4a65c tyJx4a65c_ok hown (hts (.classLink RX10 7 RJx4a65c) (by decide +kernel)) (hts (.instantiable RJx4a65c 3) (by decide +kernel)) (hts (.initialized RJx4a65c) (by decide +kernel)) hK hP hD hS hA rfl (fun j hj => by rcases (show j = 0 ∨ j = 1 ∨ j = 2 by omega) with rfl | rfl | rfl <;> rfl) (Nat.le_of_ble_eq_true rfl) (Nat.le_of_ble_eq_true rfl) dX10_init_16 (fun q_3 H hP hD hS => ?_)
  have hP : va_P (dC, dI) vwCl [(m0, .inr (12, [.int 0, .ref q_1, .null, .int 0, .int 0, .int 0, .long 0])), (q_1, .inr (1, [.int 0, .ref a0, .int 0])), (q_3, .inr (1, [.int 0, .null, .int 0]))] H := hP
  have hD : va_D A [(m0, .inr (12, [.int 0, .ref q_1, .null, .int 0, .int 0, .int 0, .long 0])), (q_1, .inr (1, [.int 0, .ref a0, .int 0])), (q_3, .inr (1, [.int 0, .null, .int 0]))] := hD
  refine W.widen (k := 2) (n := 6) (Nat.le_of_ble_eq_true rfl) (Nat.le_of_ble_eq_true rfl) ?_
  refine lv_dup hx hb dX10_init_19 rfl ?_
  have hPc := hP.sub (ws' := [(q_3, .inr (1, [.int 0, .null, .int 0]))]) [2] rfl
  have hDc := hD.sub (ws' := [(q_3, .inr (1, [.int 0, .null, .int 0]))]) [2] (by decide) rfl
  have hKc := hK.sub (tys' := []) [] rfl
  have hFc := va_free (wc := [(q_3, .inr (1, [.int 0, .null, .int 0]))]) hD hS hA [2] rfl
  have hZc := ((hZ.kept hS.2.1).narrow hFc)
  refine va_callv (va_runI (As := []) (rest := [.ref q_3, .ref m0]) ⟨hx, hb, hml, hown, hts⟩ (c_Jx4a65c_init_da8c8 l hnt dC dI a0 q_3 H.size ) (cwI 0 hts (goodIn_of _ (by decide +kernel)) rfl rfl rfl (hts (.initialized RJx4a65c) (by decide +kernel)) (hts (.methodLink RX10 9 yJx4a65c_init_da8c8) (by decide +kernel)) (hts (.instanceMethod yJx4a65c_init_da8c8) (by decide +kernel)) rfl (by decide +kernel) ⟨Nat.le_of_ble_eq_true rfl, Nat.le_of_ble_eq_true rfl⟩) ⟨fun a U g mk q => by obtain ⟨q0, q1, qP, qK, qD, qZ⟩ := q; exact ⟨q0, q1, qP, va_K.moved (u := U) (U := U.calling g mk a) (Vm.Alike.refl U.vm) qK, qD, qZ.call⟩, fun U hU hW => ⟨rfl, by rw [hU], by rw [hU]; exact hPc, va_K.moved hW.alike hKc, hDc.weaken (fun _ _ _ _ => trivial), by rw [hU]; exact hZc.warm hW⟩⟩ rfl rfl hl.1 rfl (lv_room (Nat.le_of_ble_eq_true rfl)) dX10_init_20 ⟨Nat.le_of_ble_eq_true rfl, Nat.le_of_ble_eq_true rfl⟩) hS (fun q _ h => hFc q h) hFc (fun u t H1 locs ht hvm hw hB hz1 hk1 hS => ?_)
  obtain ⟨hP1, hK1, hD1⟩ := hB
  rw [ht] at hP1
  have hK1 := va_K.moved hvm.symm hK1
  obtain ⟨hP, hD⟩ := va_join (wr := [(m0, .inr (12, [.int 0, .ref q_1, .null, .int 0, .int 0, .int 0, .long 0])), (q_1, .inr (1, [.int 0, .ref a0, .int 0]))]) (w1 := [(q_3, .inr (1, [.int 0, .ref a0, .int 0]))]) hP hD [2] [0, 1] rfl rfl (by decide) (by decide) hk1 hFc hP1 hD1
  have hK := (hK.sub (tys' := []) [] rfl).app hK1
  generalize H1 = H at hP hS ⊢
  have hP : va_P (dC, dI) vwCl [(m0, .inr (12, [.int 0, .ref q_1, .null, .int 0, .int 0, .int 0, .long 0])), (q_1, .inr (1, [.int 0, .ref a0, .int 0])), (q_3, .inr (1, [.int 0, .ref a0, .int 0]))] H := hP
  have hD : va_D A [(m0, .inr (12, [.int 0, .ref q_1, .null, .int 0, .int 0, .int 0, .long 0])), (q_1, .inr (1, [.int 0, .ref a0, .int 0])), (q_3, .inr (1, [.int 0, .ref a0, .int 0]))] := hD
  have hK : va_K (dC, dI) vwCl [] s := hK
  refine W.widen (k := 2) (n := 6) (Nat.le_of_ble_eq_true rfl) (Nat.le_of_ble_eq_true rfl) ?_
  refine va_putF (D := (dC, dI)) (ci := 12) (v := .ref q_3) (ty := .object "java/util/ArrayList") (C := RX10) (T := TX10) (N := 7) hx hb hts hiX10 tyX10 tyX10_ok nmX10 hown hK hP hD hS 0 rfl rfl 2 (by decide) (hts (.fieldLink RX10 16 "HaltingaleModel" "tags" "Ljava/util/ArrayList;") (by decide +kernel)) (fun _ h9 => h9) rfl hin rfl (by decide +kernel) rfl rfl (Nat.le_of_ble_eq_true rfl) dX10_init_23 (fun H locs hP hD hS => ?_)
  have hP : va_P (dC, dI) vwCl [(m0, .inr (12, [.int 0, .ref q_1, .ref q_3, .int 0, .int 0, .int 0, .long 0])), (q_1, .inr (1, [.int 0, .ref a0, .int 0])), (q_3, .inr (1, [.int 0, .ref a0, .int 0]))] H := hP
  have hD : va_D A [(m0, .inr (12, [.int 0, .ref q_1, .ref q_3, .int 0, .int 0, .int 0, .long 0])), (q_1, .inr (1, [.int 0, .ref a0, .int 0])), (q_3, .inr (1, [.int 0, .ref a0, .int 0]))] := hD
  have hP9 := hP.sub (ws' := [(m0, .inr (12, [.int 0, .ref q_1, .ref q_3, .int 0, .int 0, .int 0, .long 0])), (q_1, .inr (1, [.int 0, .ref a0, .int 0])), (q_3, .inr (1, [.int 0, .ref a0, .int 0]))]) [0, 1, 2] rfl
  have hD9 := hD.sub (ws' := [(m0, .inr (12, [.int 0, .ref q_1, .ref q_3, .int 0, .int 0, .int 0, .long 0])), (q_1, .inr (1, [.int 0, .ref a0, .int 0])), (q_3, .inr (1, [.int 0, .ref a0, .int 0]))]) [0, 1, 2] (by decide) rfl
  have hK9 := hK.sub (tys' := []) [] rfl
  refine W.widen (k := 2) (n := 6) (Nat.le_of_ble_eq_true rfl) (Nat.le_of_ble_eq_true rfl) ?_
  exact W.vret hx hb hr (fun t ht hW => ⟨⟨(), rfl, trivial, ⟨q_1, q_3, by rw [ht]; exact hP9, va_K.moved hW.alike hK9, hD9⟩⟩, hS.F ht⟩) hS.2.2 dX10_init_26

def zs_c_Jx4a65c_size_8abf5 : List Cond := .code yJx4a65c_size_8abf5 cJx4a65c_size_8abf5 1 (some .int) :: (([.fieldLink RJx4a65c 48 "java/util/ArrayList" "size" "I"] : List Cond) ++ wsJx4a65c0)
set_option maxHeartbeats 4000000 in
set_option maxRecDepth 100000 in
/-- size -/
theorem c_Jx4a65c_size_8abf5 (l : Launch) (hnt : l.stackTraces = false) (dC : Nat → ClassId) (dI : Nat → Nat → Nat) (a0 : Nat) (h0 : Nat) (k0 : Int32) (q0 : Nat) (n0 : Int32) (sz : Nat)  : Met l yJx4a65c_size_8abf5 zs_c_Jx4a65c_size_8abf5 ({ frames := 0, cells := 0, slots := 0, locals := 0 }) (va_Pc [.ref h0] (fun U => U.heap.size = sz ∧ va_P (dC, dI) vwCl [(h0, .inr (1, [.int k0, .ref q0, .int n0]))] U.heap ∧ va_K (dC, dI) vwCl [] U ∧ va_D (fun _ => True) [(h0, .inr (1, [.int k0, .ref q0, .int n0]))] ∧ zB a0 (va_A [(h0, .inr (1, [.int k0, .ref q0, .int n0]))] sz) U U.heap)) (va_Qi (fun (r : Int32) (_ : Unit) => r = n0) (fun _ t => va_P (dC, dI) vwCl [(h0, .inr (1, [.int k0, .ref q0, .int n0]))] t.heap ∧ va_K (dC, dI) vwCl [] t ∧ va_D (va_A [(h0, .inr (1, [.int k0, .ref q0, .int n0]))] sz) [(h0, .inr (1, [.int k0, .ref q0, .int n0]))]) (va_A [(h0, .inr (1, [.int k0, .ref q0, .int n0]))] sz)) 0 0 (va_A [(h0, .inr (1, [.int k0, .ref q0, .int n0]))] sz) := by
  refine Met.ofW (cc := cJx4a65c_size_8abf5) (maxL := 1) (ret := (some .int)) (by decide) rfl ?_
  intro p e s m args below meth c s₁ B hml hv
  obtain ⟨rfl, hsz, hP, hK, hD0, hZ⟩ := hv
  have hx := B.exec
  have hb := B.bytes
  have hr := B.returns
  have hts := atoms_spec (ws := zs_c_Jx4a65c_size_8abf5) B.pre
  have hown : s.vm.findClass RJx4a65c = some m.cls := findClass_of_methodNamed B.named
  have hlocks := B.notSynchronized
  have hiJx4a65c : ∀ w ∈ wsJx4a65c0, w ∈ zs_c_Jx4a65c_size_8abf5 := by decide +kernel
  subst hsz
  have hD := hD0.self (sz := s.heap.size)
  generalize hAe : va_A [(h0, .inr (1, [.int k0, .ref q0, .int n0]))] s.heap.size = A at hD hZ ⊢
  have hA : ∀ q : Nat, s.heap.size ≤ q → A q := fun q h => by rw [← hAe]; exact Or.inr h
  have hS : va_S A s.heap s.heap [] := va_S.rf
  have hl := lv_entry ([.ref h0]) (n := 1) (Nat.le_of_ble_eq_true rfl)
  rw [lg_entry_eq]
  generalize (lg_sl ([.ref h0]) ++ List.replicate (1 - (lg_sl ([.ref h0])).length) Slot.unset).toArray = ls at hl ⊢
  have hl : lv_has ls 1 [(0, .ref h0)] := hl
  refine lv_aload_n hx hb dJx4a65c_size_8abf5_0 rfl (lv_at hl 0 rfl) ?_
  refine va_get (D := (dC, dI)) (ci := 1) (v := .int n0) (C := RJx4a65c) (T := TJx4a65c) (N := 3) hx hb hts hiJx4a65c hown hK hP 0 rfl rfl 2 (by decide) (hts (.fieldLink RJx4a65c 48 "java/util/ArrayList" "size" "I") (by decide +kernel)) (fun _ h9 => h9) rfl dJx4a65c_size_8abf5_1 ?_
  have hP9 := hP.sub (ws' := [(h0, .inr (1, [.int k0, .ref q0, .int n0]))]) [0] rfl
  have hD9 := hD.sub (ws' := [(h0, .inr (1, [.int k0, .ref q0, .int n0]))]) [0] (by decide) rfl
  have hK9 := hK.sub (tys' := []) [] rfl
  refine W.widen (k := 0) (n := 0) (Nat.le_of_ble_eq_true rfl) (Nat.le_of_ble_eq_true rfl) ?_
  exact W.iret (v := n0) hx hb hr (fun t ht hW => ⟨⟨n0, (), rfl, rfl, ⟨by rw [ht]; exact hP9, va_K.moved hW.alike hK9, hD9⟩⟩, hS.F ht⟩) hS.2.2 dJx4a65c_size_8abf5_4

def zs_c_Jx35411_init_45d68 : List Cond := .code yJx35411_init_45d68 cJx35411_init_45d68 2 none :: (([.fieldLink RJx35411 1 "java/util/ArrayList$Itr" "this$0" "Ljava/util/ArrayList;", .methodLink RJx35411 7 objectInit, .instanceMethod objectInit, .code objectInit ⟨#[0xb1]⟩ 1 none, .fieldLink RJx35411 13 "java/util/ArrayList$Itr" "lastRet" "I", .sameField "java/util/ArrayList" "java/util/AbstractList" "modCount" "I", .fieldLink RJx35411 17 "java/util/ArrayList" "modCount" "I", .fieldLink RJx35411 22 "java/util/ArrayList$Itr" "expectedModCount" "I"] : List Cond) ++ wsJx354110 ++ wsJx4a65c0)
set_option maxHeartbeats 4000000 in
set_option maxRecDepth 100000 in
/-- an iterator -/
theorem c_Jx35411_init_45d68 (l : Launch) (hnt : l.stackTraces = false) (dC : Nat → ClassId) (dI : Nat → Nat → Nat) (a0 : Nat) (h0 : Nat) (h1 : Nat) (sz : Nat)  : Met l yJx35411_init_45d68 zs_c_Jx35411_init_45d68 ({ frames := 1, cells := 0, slots := 0, locals := 12 }) (va_Pc [.ref h1, .ref h0] (fun U => U.heap.size = sz ∧ va_P (dC, dI) vwCl [(h1, .inr (0, [.int 0, .int 0, .int 0, .null])), (h0, .inr (1, [.int 0, .ref a0, .int 0]))] U.heap ∧ va_K (dC, dI) vwCl [] U ∧ va_D (fun _ => True) [(h1, .inr (0, [.int 0, .int 0, .int 0, .null])), (h0, .inr (1, [.int 0, .ref a0, .int 0]))] ∧ zB a0 (va_A [(h1, .inr (0, [.int 0, .int 0, .int 0, .null])), (h0, .inr (1, [.int 0, .ref a0, .int 0]))] sz) U U.heap)) (va_Qv (fun _ : Unit => True) (fun _ t => va_P (dC, dI) vwCl [(h1, .inr (0, [.int 0, .int (-1), .int 0, .ref h0])), (h0, .inr (1, [.int 0, .ref a0, .int 0]))] t.heap ∧ va_K (dC, dI) vwCl [] t ∧ va_D (va_A [(h1, .inr (0, [.int 0, .int 0, .int 0, .null])), (h0, .inr (1, [.int 0, .ref a0, .int 0]))] sz) [(h1, .inr (0, [.int 0, .int (-1), .int 0, .ref h0])), (h0, .inr (1, [.int 0, .ref a0, .int 0]))]) (va_A [(h1, .inr (0, [.int 0, .int 0, .int 0, .null])), (h0, .inr (1, [.int 0, .ref a0, .int 0]))] sz)) 0 0 (va_A [(h1, .inr (0, [.int 0, .int 0, .int 0, .null])), (h0, .inr (1, [.int 0, .ref a0, .int 0]))] sz) := by
  refine Met.ofW (cc := cJx35411_init_45d68) (maxL := 2) (ret := none) (by decide) rfl ?_
  intro p e s m args below meth c s₁ B hml hv
  obtain ⟨rfl, hsz, hP, hK, hD0, hZ⟩ := hv
  have hx := B.exec
  have hb := B.bytes
  have hr := B.returns
  have hts := atoms_spec (ws := zs_c_Jx35411_init_45d68) B.pre
  have hown : s.vm.findClass RJx35411 = some m.cls := findClass_of_methodNamed B.named
  have hlocks := B.notSynchronized
  have hin : meth.name = "<init>" := (name_of_methodNamed B.named B.method).1
  have hiJx35411 : ∀ w ∈ wsJx354110, w ∈ zs_c_Jx35411_init_45d68 := by decide +kernel
  have hiJx4a65c : ∀ w ∈ wsJx4a65c0, w ∈ zs_c_Jx35411_init_45d68 := by decide +kernel
  subst hsz
  have hD := hD0.self (sz := s.heap.size)
  generalize hAe : va_A [(h1, .inr (0, [.int 0, .int 0, .int 0, .null])), (h0, .inr (1, [.int 0, .ref a0, .int 0]))] s.heap.size = A at hD hZ ⊢
  have hA : ∀ q : Nat, s.heap.size ≤ q → A q := fun q h => by rw [← hAe]; exact Or.inr h
  have hS : va_S A s.heap s.heap [] := va_S.rf
  have hl := lv_entry ([.ref h1, .ref h0]) (n := 2) (Nat.le_of_ble_eq_true rfl)
  rw [lg_entry_eq]
  generalize (lg_sl ([.ref h1, .ref h0]) ++ List.replicate (2 - (lg_sl ([.ref h1, .ref h0])).length) Slot.unset).toArray = ls at hl ⊢
  have hl : lv_has ls 2 [(0, .ref h1), (1, .ref h0)] := hl
  refine lv_aload_n hx hb dJx35411_init_45d68_0 rfl (lv_at hl 0 rfl) ?_
  refine lv_aload_n hx hb dJx35411_init_45d68_1 rfl (lv_at hl 1 rfl) ?_
  refine va_putF (D := (dC, dI)) (ci := 0) (v := .ref h0) (ty := .object "java/util/ArrayList") (C := RJx35411) (T := TJx35411) (N := 4) hx hb hts hiJx35411 tyJx35411 tyJx35411_ok nmJx35411 hown hK hP hD hS 0 rfl rfl 3 (by decide) (hts (.fieldLink RJx35411 1 "java/util/ArrayList$Itr" "this$0" "Ljava/util/ArrayList;") (by decide +kernel)) (fun _ h9 => h9) rfl hin rfl (by decide +kernel) rfl rfl (Nat.le_of_ble_eq_true rfl) dJx35411_init_45d68_2 (fun H locs hP hD hS => ?_)
  have hP : va_P (dC, dI) vwCl [(h1, .inr (0, [.int 0, .int 0, .int 0, .ref h0])), (h0, .inr (1, [.int 0, .ref a0, .int 0]))] H := hP
  have hD : va_D A [(h1, .inr (0, [.int 0, .int 0, .int 0, .ref h0])), (h0, .inr (1, [.int 0, .ref a0, .int 0]))] := hD
  refine lv_aload_n hx hb dJx35411_init_45d68_5 rfl (lv_at hl 0 rfl) ?_
  refine W.objInit hx hb hown (hts (.methodLink RJx35411 7 objectInit) (by decide +kernel)) (hts (.instanceMethod objectInit) (by decide +kernel)) (hts (.code objectInit ⟨#[0xb1]⟩ 1 none) (by decide +kernel)) rfl (by rw [hml]; exact hl.1) rfl dJx35411_init_45d68_6 (Nat.le_of_ble_eq_true rfl) (Nat.le_of_ble_eq_true rfl) ?_
  refine W.eq (g2 := F0 m 9 ls []) rfl ?_
  refine lv_aload_n hx hb dJx35411_init_45d68_9 rfl (lv_at hl 0 rfl) ?_
  refine lv_iconst (v := (-1)) hx hb dJx35411_init_45d68_10 (by decide) ?_
  refine va_put (D := (dC, dI)) (ci := 0) (v := .int (-1)) (ty := .int) (C := RJx35411) (T := TJx35411) (N := 4) hx hb hts hiJx35411 tyJx35411 tyJx35411_ok nmJx35411 hown hK hP hD hS 0 rfl rfl 1 (by decide) (hts (.fieldLink RJx35411 13 "java/util/ArrayList$Itr" "lastRet" "I") (by decide +kernel)) (fun _ h9 => h9) rfl (by decide +kernel) rfl rfl (Nat.le_of_ble_eq_true rfl) dJx35411_init_45d68_11 (fun H locs hP hD hS => ?_)
  have hP : va_P (dC, dI) vwCl [(h1, .inr (0, [.int 0, .int (-1), .int 0, .ref h0])), (h0, .inr (1, [.int 0, .ref a0, .int 0]))] H := hP
  have hD : va_D A [(h1, .inr (0, [.int 0, .int (-1), .int 0, .ref h0])), (h0, .inr (1, [.int 0, .ref a0, .int 0]))] := hD
  refine lv_aload_n hx hb dJx35411_init_45d68_14 rfl (lv_at hl 0 rfl) ?_
  refine lv_aload_n hx hb dJx35411_init_45d68_15 rfl (lv_at hl 0 rfl) ?_
  refine va_get (D := (dC, dI)) (ci := 0) (v := .ref h0) (C := RJx35411) (T := TJx35411) (N := 4) hx hb hts hiJx35411 hown hK hP 0 rfl rfl 3 (by decide) (hts (.fieldLink RJx35411 1 "java/util/ArrayList$Itr" "this$0" "Ljava/util/ArrayList;") (by decide +kernel)) (fun _ h9 => h9) rfl dJx35411_init_45d68_16 ?_
  refine va_get (D := (dC, dI)) (ci := 1) (v := .int 0) (C := RJx4a65c) (T := TJx4a65c) (N := 3) hx hb hts hiJx4a65c hown hK hP 1 rfl rfl 0 (by decide) (hts (.fieldLink RJx35411 17 "java/util/ArrayList" "modCount" "I") (by decide +kernel)) (u_same (hts (.sameField "java/util/ArrayList" "java/util/AbstractList" "modCount" "I") (by decide +kernel))) rfl dJx35411_init_45d68_19 ?_
  refine va_put (D := (dC, dI)) (ci := 0) (v := .int 0) (ty := .int) (C := RJx35411) (T := TJx35411) (N := 4) hx hb hts hiJx35411 tyJx35411 tyJx35411_ok nmJx35411 hown hK hP hD hS 0 rfl rfl 2 (by decide) (hts (.fieldLink RJx35411 22 "java/util/ArrayList$Itr" "expectedModCount" "I") (by decide +kernel)) (fun _ h9 => h9) rfl (by decide +kernel) rfl rfl (Nat.le_of_ble_eq_true rfl) dJx35411_init_45d68_22 (fun H locs hP hD hS => ?_)
  have hP : va_P (dC, dI) vwCl [(h1, .inr (0, [.int 0, .int (-1), .int 0, .ref h0])), (h0, .inr (1, [.int 0, .ref a0, .int 0]))] H := hP
  have hD : va_D A [(h1, .inr (0, [.int 0, .int (-1), .int 0, .ref h0])), (h0, .inr (1, [.int 0, .ref a0, .int 0]))] := hD
  have hP9 := hP.sub (ws' := [(h1, .inr (0, [.int 0, .int (-1), .int 0, .ref h0])), (h0, .inr (1, [.int 0, .ref a0, .int 0]))]) [0, 1] rfl
  have hD9 := hD.sub (ws' := [(h1, .inr (0, [.int 0, .int (-1), .int 0, .ref h0])), (h0, .inr (1, [.int 0, .ref a0, .int 0]))]) [0, 1] (by decide) rfl
  have hK9 := hK.sub (tys' := []) [] rfl
  refine W.widen (k := 0) (n := 0) (Nat.le_of_ble_eq_true rfl) (Nat.le_of_ble_eq_true rfl) ?_
  exact W.vret hx hb hr (fun t ht hW => ⟨⟨(), rfl, trivial, ⟨by rw [ht]; exact hP9, va_K.moved hW.alike hK9, hD9⟩⟩, hS.F ht⟩) hS.2.2 dJx35411_init_45d68_25

def zs_c_Jx4a65c_iterator_32c93 : List Cond := .code yJx4a65c_iterator_32c93 cJx4a65c_iterator_32c93 1 (some (.object "java/util/Iterator")) :: (([.classLink RJx4a65c 267 RJx35411, .instantiable RJx35411 4, .initialized RJx35411, .code yJx35411_init_45d68 cJx35411_init_45d68 2 none, .fieldLink RJx35411 1 "java/util/ArrayList$Itr" "this$0" "Ljava/util/ArrayList;", .methodLink RJx35411 7 objectInit, .instanceMethod objectInit, .code objectInit ⟨#[0xb1]⟩ 1 none, .fieldLink RJx35411 13 "java/util/ArrayList$Itr" "lastRet" "I", .sameField "java/util/ArrayList" "java/util/AbstractList" "modCount" "I", .fieldLink RJx35411 17 "java/util/ArrayList" "modCount" "I", .fieldLink RJx35411 22 "java/util/ArrayList$Itr" "expectedModCount" "I", .methodLink RJx4a65c 269 yJx35411_init_45d68, .instanceMethod yJx35411_init_45d68] : List Cond) ++ wsJx354110 ++ wsJx4a65c0)
set_option maxHeartbeats 4000000 in
set_option maxRecDepth 100000 in
/-- iterator() -/
theorem c_Jx4a65c_iterator_32c93 (l : Launch) (hnt : l.stackTraces = false) (dC : Nat → ClassId) (dI : Nat → Nat → Nat) (a0 : Nat) (h0 : Nat) (sz : Nat)  : Met l yJx4a65c_iterator_32c93 zs_c_Jx4a65c_iterator_32c93 ({ frames := 2, cells := 1, slots := 4, locals := 33 }) (va_Pc [.ref h0] (fun U => U.heap.size = sz ∧ va_P (dC, dI) vwCl [(h0, .inr (1, [.int 0, .ref a0, .int 0]))] U.heap ∧ va_K (dC, dI) vwCl [] U ∧ va_D (fun _ => True) [(h0, .inr (1, [.int 0, .ref a0, .int 0]))] ∧ zB a0 (va_A [(h0, .inr (1, [.int 0, .ref a0, .int 0]))] sz) U U.heap)) (va_Qr (fun _ : Unit => True) (fun _ q t => va_P (dC, dI) vwCl [(q, .inr (0, [.int 0, .int (-1), .int 0, .ref h0])), (h0, .inr (1, [.int 0, .ref a0, .int 0]))] t.heap ∧ va_K (dC, dI) vwCl [] t ∧ va_D (va_A [(h0, .inr (1, [.int 0, .ref a0, .int 0]))] sz) [(q, .inr (0, [.int 0, .int (-1), .int 0, .ref h0])), (h0, .inr (1, [.int 0, .ref a0, .int 0]))]) (va_A [(h0, .inr (1, [.int 0, .ref a0, .int 0]))] sz)) 1 4 (va_A [(h0, .inr (1, [.int 0, .ref a0, .int 0]))] sz) := by
  refine Met.ofW (cc := cJx4a65c_iterator_32c93) (maxL := 1) (ret := (some (.object "java/util/Iterator"))) (by decide) rfl ?_
  intro p e s m args below meth c s₁ B hml hv
  obtain ⟨rfl, hsz, hP, hK, hD0, hZ⟩ := hv
  have hx := B.exec
  have hb := B.bytes
  have hr := B.returns
  have hts := atoms_spec (ws := zs_c_Jx4a65c_iterator_32c93) B.pre
  have hown : s.vm.findClass RJx4a65c = some m.cls := findClass_of_methodNamed B.named
  have hlocks := B.notSynchronized
  have hiJx35411 : ∀ w ∈ wsJx354110, w ∈ zs_c_Jx4a65c_iterator_32c93 := by decide +kernel
  subst hsz
  have hD := hD0.self (sz := s.heap.size)
  generalize hAe : va_A [(h0, .inr (1, [.int 0, .ref a0, .int 0]))] s.heap.size = A at hD hZ ⊢
  have hA : ∀ q : Nat, s.heap.size ≤ q → A q := fun q h => by rw [← hAe]; exact Or.inr h
  have hS : va_S A s.heap s.heap [] := va_S.rf
  have hl := lv_entry ([.ref h0]) (n := 1) (Nat.le_of_ble_eq_true rfl)
  rw [lg_entry_eq]
  generalize (lg_sl ([.ref h0]) ++ List.replicate (1 - (lg_sl ([.ref h0])).length) Slot.unset).toArray = ls at hl ⊢
  have hl : lv_has ls 1 [(0, .ref h0)] := hl
  refine va_new (ci := 0) (fs := [.int 0, .int 0, .int 0, .null]) (C := RJx35411) (T := TJx35411) (N := 4) hx hb hts hiJx35411 tyJx35411 tyJx35411_ok hown (hts (.classLink RJx4a65c 267 RJx35411) (by decide +kernel)) (hts (.instantiable RJx35411 4) (by decide +kernel)) (hts (.initialized RJx35411) (by decide +kernel)) hK hP hD hS hA rfl (fun j hj => by rcases (show j = 0 ∨ j = 1 ∨ j = 2 ∨ j = 3 by omega) with rfl | rfl | rfl | rfl <;> rfl) (Nat.le_of_ble_eq_true rfl) (Nat.le_of_ble_eq_true rfl) dJx4a65c_iterator_32c93_0 (fun q_1 H hP hD hS => ?_)
  have hP : va_P (dC, dI) vwCl [(h0, .inr (1, [.int 0, .ref a0, .int 0])), (q_1, .inr (0, [.int 0, .int 0, .int 0, .null]))] H := hP
  have hD : va_D A [(h0, .inr (1, [.int 0, .ref a0, .int 0])), (q_1, .inr (0, [.int 0, .int 0, .int 0, .null]))] := hD
  refine W.widen (k := 1) (n := 4) (Nat.le_of_ble_eq_true rfl) (Nat.le_of_ble_eq_true rfl) ?_
  refine lv_dup hx hb dJx4a65c_iterator_32c93_3 rfl ?_
  refine lv_aload_n hx hb dJx4a65c_iterator_32c93_4 rfl (lv_at hl 0 rfl) ?_
  have hPc := hP.sub (ws' := [(q_1, .inr (0, [.int 0, .int 0, .int 0, .null])), (h0, .inr (1, [.int 0, .ref a0, .int 0]))]) [1, 0] rfl
  have hDc := hD.sub (ws' := [(q_1, .inr (0, [.int 0, .int 0, .int 0, .null])), (h0, .inr (1, [.int 0, .ref a0, .int 0]))]) [1, 0] (by decide) rfl
  have hKc := hK.sub (tys' := []) [] rfl
  have hFc := va_free (wc := [(q_1, .inr (0, [.int 0, .int 0, .int 0, .null])), (h0, .inr (1, [.int 0, .ref a0, .int 0]))]) hD hS hA [1, 0] rfl
  have hZc := ((hZ.kept hS.2.1).narrow hFc)
  refine va_callv (va_runI (As := [.ref h0]) (rest := [.ref q_1]) ⟨hx, hb, hml, hown, hts⟩ (c_Jx35411_init_45d68 l hnt dC dI a0 h0 q_1 H.size ) (cwI 1 hts (goodIn_of _ (by decide +kernel)) rfl rfl rfl (hts (.initialized RJx35411) (by decide +kernel)) (hts (.methodLink RJx4a65c 269 yJx35411_init_45d68) (by decide +kernel)) (hts (.instanceMethod yJx35411_init_45d68) (by decide +kernel)) rfl (by decide +kernel) ⟨Nat.le_of_ble_eq_true rfl, Nat.le_of_ble_eq_true rfl⟩) ⟨fun a U g mk q => by obtain ⟨q0, q1, qP, qK, qD, qZ⟩ := q; exact ⟨q0, q1, qP, va_K.moved (u := U) (U := U.calling g mk a) (Vm.Alike.refl U.vm) qK, qD, qZ.call⟩, fun U hU hW => ⟨rfl, by rw [hU], by rw [hU]; exact hPc, va_K.moved hW.alike hKc, hDc.weaken (fun _ _ _ _ => trivial), by rw [hU]; exact hZc.warm hW⟩⟩ rfl rfl hl.1 rfl (lv_room (Nat.le_of_ble_eq_true rfl)) dJx4a65c_iterator_32c93_5 ⟨Nat.le_of_ble_eq_true rfl, Nat.le_of_ble_eq_true rfl⟩) hS (fun q _ h => hFc q h) hFc (fun u t H1 locs ht hvm hw hB hz1 hk1 hS => ?_)
  obtain ⟨hP1, hK1, hD1⟩ := hB
  rw [ht] at hP1
  have hK1 := va_K.moved hvm.symm hK1
  obtain ⟨hP, hD⟩ := va_join (wr := []) (w1 := [(q_1, .inr (0, [.int 0, .int (-1), .int 0, .ref h0])), (h0, .inr (1, [.int 0, .ref a0, .int 0]))]) hP hD [1, 0] [] rfl rfl (by decide) (by decide) hk1 hFc hP1 hD1
  have hK := (hK.sub (tys' := []) [] rfl).app hK1
  generalize H1 = H at hP hS ⊢
  have hP : va_P (dC, dI) vwCl [(q_1, .inr (0, [.int 0, .int (-1), .int 0, .ref h0])), (h0, .inr (1, [.int 0, .ref a0, .int 0]))] H := hP
  have hD : va_D A [(q_1, .inr (0, [.int 0, .int (-1), .int 0, .ref h0])), (h0, .inr (1, [.int 0, .ref a0, .int 0]))] := hD
  have hK : va_K (dC, dI) vwCl [] s := hK
  refine W.widen (k := 1) (n := 4) (Nat.le_of_ble_eq_true rfl) (Nat.le_of_ble_eq_true rfl) ?_
  have hP9 := hP.sub (ws' := [(q_1, .inr (0, [.int 0, .int (-1), .int 0, .ref h0])), (h0, .inr (1, [.int 0, .ref a0, .int 0]))]) [0, 1] rfl
  have hD9 := hD.sub (ws' := [(q_1, .inr (0, [.int 0, .int (-1), .int 0, .ref h0])), (h0, .inr (1, [.int 0, .ref a0, .int 0]))]) [0, 1] (by decide) rfl
  have hK9 := hK.sub (tys' := []) [] rfl
  refine W.widen (k := 1) (n := 4) (Nat.le_of_ble_eq_true rfl) (Nat.le_of_ble_eq_true rfl) ?_
  exact W.aret (v := .ref q_1) hx hb hr (Or.inl ⟨_, rfl⟩) (Or.inr ⟨_, rfl⟩) (fun t ht hW => ⟨⟨(), q_1, rfl, trivial, ⟨by rw [ht]; exact hP9, va_K.moved hW.alike hK9, hD9⟩⟩, hS.F ht⟩) hS.2.2 dJx4a65c_iterator_32c93_8

def zs_c_Jx35411_hasNext_aae02 : List Cond := .code yJx35411_hasNext_aae02 cJx35411_hasNext_aae02 1 (some .boolean) :: (([.fieldLink RJx35411 25 "java/util/ArrayList$Itr" "cursor" "I", .fieldLink RJx35411 1 "java/util/ArrayList$Itr" "this$0" "Ljava/util/ArrayList;"] : List Cond) ++ wsJx354110 ++ wsJx4a65c0)
set_option maxHeartbeats 4000000 in
set_option maxRecDepth 100000 in
/-- hasNext() -/
theorem c_Jx35411_hasNext_aae02 (l : Launch) (hnt : l.stackTraces = false) (dC : Nat → ClassId) (dI : Nat → Nat → Nat) (a0 : Nat) (h1 : Nat) (h0 : Nat) (sz : Nat)  : Met l yJx35411_hasNext_aae02 zs_c_Jx35411_hasNext_aae02 ({ frames := 0, cells := 0, slots := 0, locals := 0 }) (va_Pc [.ref h1] (fun U => U.heap.size = sz ∧ va_P (dC, dI) vwCl [(h1, .inr (0, [.int 0, .int (-1), .int 0, .ref h0])), (h0, .inr (1, [.int 0, .ref a0, .int 0]))] U.heap ∧ va_K (dC, dI) vwCl [] U ∧ va_D (fun _ => True) [(h1, .inr (0, [.int 0, .int (-1), .int 0, .ref h0])), (h0, .inr (1, [.int 0, .ref a0, .int 0]))] ∧ zB a0 (va_A [(h1, .inr (0, [.int 0, .int (-1), .int 0, .ref h0])), (h0, .inr (1, [.int 0, .ref a0, .int 0]))] sz) U U.heap)) (va_Qi (fun (r : Int32) (_ : Unit) => r = 0) (fun _ t => va_P (dC, dI) vwCl [(h1, .inr (0, [.int 0, .int (-1), .int 0, .ref h0])), (h0, .inr (1, [.int 0, .ref a0, .int 0]))] t.heap ∧ va_K (dC, dI) vwCl [] t ∧ va_D (va_A [(h1, .inr (0, [.int 0, .int (-1), .int 0, .ref h0])), (h0, .inr (1, [.int 0, .ref a0, .int 0]))] sz) [(h1, .inr (0, [.int 0, .int (-1), .int 0, .ref h0])), (h0, .inr (1, [.int 0, .ref a0, .int 0]))]) (va_A [(h1, .inr (0, [.int 0, .int (-1), .int 0, .ref h0])), (h0, .inr (1, [.int 0, .ref a0, .int 0]))] sz)) 0 0 (va_A [(h1, .inr (0, [.int 0, .int (-1), .int 0, .ref h0])), (h0, .inr (1, [.int 0, .ref a0, .int 0]))] sz) := by
  refine Met.ofW (cc := cJx35411_hasNext_aae02) (maxL := 1) (ret := (some .boolean)) (by decide) rfl ?_
  intro p e s m args below meth c s₁ B hml hv
  obtain ⟨rfl, hsz, hP, hK, hD0, hZ⟩ := hv
  have hx := B.exec
  have hb := B.bytes
  have hr := B.returns
  have hts := atoms_spec (ws := zs_c_Jx35411_hasNext_aae02) B.pre
  have hown : s.vm.findClass RJx35411 = some m.cls := findClass_of_methodNamed B.named
  have hlocks := B.notSynchronized
  have hiJx35411 : ∀ w ∈ wsJx354110, w ∈ zs_c_Jx35411_hasNext_aae02 := by decide +kernel
  have hiJx4a65c : ∀ w ∈ wsJx4a65c0, w ∈ zs_c_Jx35411_hasNext_aae02 := by decide +kernel
  subst hsz
  have hD := hD0.self (sz := s.heap.size)
  generalize hAe : va_A [(h1, .inr (0, [.int 0, .int (-1), .int 0, .ref h0])), (h0, .inr (1, [.int 0, .ref a0, .int 0]))] s.heap.size = A at hD hZ ⊢
  have hA : ∀ q : Nat, s.heap.size ≤ q → A q := fun q h => by rw [← hAe]; exact Or.inr h
  have hS : va_S A s.heap s.heap [] := va_S.rf
  have hl := lv_entry ([.ref h1]) (n := 1) (Nat.le_of_ble_eq_true rfl)
  rw [lg_entry_eq]
  generalize (lg_sl ([.ref h1]) ++ List.replicate (1 - (lg_sl ([.ref h1])).length) Slot.unset).toArray = ls at hl ⊢
  have hl : lv_has ls 1 [(0, .ref h1)] := hl
  refine lv_aload_n hx hb dJx35411_hasNext_aae02_0 rfl (lv_at hl 0 rfl) ?_
  refine va_get (D := (dC, dI)) (ci := 0) (v := .int 0) (C := RJx35411) (T := TJx35411) (N := 4) hx hb hts hiJx35411 hown hK hP 0 rfl rfl 0 (by decide) (hts (.fieldLink RJx35411 25 "java/util/ArrayList$Itr" "cursor" "I") (by decide +kernel)) (fun _ h9 => h9) rfl dJx35411_hasNext_aae02_1 ?_
  refine lv_aload_n hx hb dJx35411_hasNext_aae02_4 rfl (lv_at hl 0 rfl) ?_
  refine va_get (D := (dC, dI)) (ci := 0) (v := .ref h0) (C := RJx35411) (T := TJx35411) (N := 4) hx hb hts hiJx35411 hown hK hP 0 rfl rfl 3 (by decide) (hts (.fieldLink RJx35411 1 "java/util/ArrayList$Itr" "this$0" "Ljava/util/ArrayList;") (by decide +kernel)) (fun _ h9 => h9) rfl dJx35411_hasNext_aae02_5 ?_
  refine va_getN (D := (dC, dI)) (ci := 1) (v := .int 0) (C := RJx4a65c) (T := TJx4a65c) (N := 3) hx hb hts hiJx4a65c hown hK hP 1 rfl rfl 2 (by decide) (va_Nw.use rfl hZ.nx) (fun _ h9 => h9) rfl dJx35411_hasNext_aae02_8 ?_
  refine lv_icmp_eq (tgt := 18) hx hb dJx35411_hasNext_aae02_11 (by decide) (fun c_1 => ?_) (fun c_1 => ?_)
  rotate_left
  · (first | exact absurd c_1 (by decide) | exact absurd (by decide) c_1)
  refine lv_iconst (v := 0) hx hb dJx35411_hasNext_aae02_18 (by decide) ?_
  have hP9 := hP.sub (ws' := [(h1, .inr (0, [.int 0, .int (-1), .int 0, .ref h0])), (h0, .inr (1, [.int 0, .ref a0, .int 0]))]) [0, 1] rfl
  have hD9 := hD.sub (ws' := [(h1, .inr (0, [.int 0, .int (-1), .int 0, .ref h0])), (h0, .inr (1, [.int 0, .ref a0, .int 0]))]) [0, 1] (by decide) rfl
  have hK9 := hK.sub (tys' := []) [] rfl
  refine W.widen (k := 0) (n := 0) (Nat.le_of_ble_eq_true rfl) (Nat.le_of_ble_eq_true rfl) ?_
  exact W.zret (v := 0) hx hb hr (by decide) (fun t ht hW => ⟨⟨0, (), rfl, rfl, ⟨by rw [ht]; exact hP9, va_K.moved hW.alike hK9, hD9⟩⟩, hS.F ht⟩) hS.2.2 dJx35411_hasNext_aae02_19

def zs_c_X10_isMachine : List Cond := .code yX10_isMachine cX10_isMachine 2 (some .boolean) :: (([.fieldLink RX10 10 "HaltingaleModel" "machines" "Ljava/util/ArrayList;", .code yJx4a65c_size_8abf5 cJx4a65c_size_8abf5 1 (some .int), .fieldLink RJx4a65c 48 "java/util/ArrayList" "size" "I", .methodLink RX10 23 yJx4a65c_size_8abf5, .instanceMethod yJx4a65c_size_8abf5, .initialized RJx4a65c, .selects RJx4a65c yJx4a65c_size_8abf5 yJx4a65c_size_8abf5, .code yX10_is cX10_is 3 (some .boolean), .methodLink RX10 27 yX10_is, .static yX10_is, .initialized RX10] : List Cond) ++ wsX100 ++ wsJx4a65c0)
set_option maxHeartbeats 4000000 in
set_option maxRecDepth 100000 in
/-- no machine -/
theorem c_X10_isMachine (l : Launch) (hnt : l.stackTraces = false) (dC : Nat → ClassId) (dI : Nat → Nat → Nat) (a0 : Nat) (m0 : Nat) (l1 : Nat) (l2 : Nat) (p0 : Int32) (sz : Nat)  : Met l yX10_isMachine zs_c_X10_isMachine ({ frames := 1, cells := 0, slots := 0, locals := 22 }) (va_Pc [.ref m0, .int p0] (fun U => U.heap.size = sz ∧ va_P (dC, dI) vwCl [(m0, .inr (12, [.int 0, .ref l1, .ref l2, .int 0, .int 0, .int 0, .long 0])), (l1, .inr (1, [.int 0, .ref a0, .int 0]))] U.heap ∧ va_K (dC, dI) vwCl [] U ∧ va_D (fun _ => True) [(m0, .inr (12, [.int 0, .ref l1, .ref l2, .int 0, .int 0, .int 0, .long 0])), (l1, .inr (1, [.int 0, .ref a0, .int 0]))] ∧ zB a0 (va_A [(m0, .inr (12, [.int 0, .ref l1, .ref l2, .int 0, .int 0, .int 0, .long 0])), (l1, .inr (1, [.int 0, .ref a0, .int 0]))] sz) U U.heap)) (va_Qi (fun (r : Int32) (_ : Unit) => r = 0) (fun _ t => va_P (dC, dI) vwCl [(m0, .inr (12, [.int 0, .ref l1, .ref l2, .int 0, .int 0, .int 0, .long 0])), (l1, .inr (1, [.int 0, .ref a0, .int 0]))] t.heap ∧ va_K (dC, dI) vwCl [] t ∧ va_D (va_A [(m0, .inr (12, [.int 0, .ref l1, .ref l2, .int 0, .int 0, .int 0, .long 0])), (l1, .inr (1, [.int 0, .ref a0, .int 0]))] sz) [(m0, .inr (12, [.int 0, .ref l1, .ref l2, .int 0, .int 0, .int 0, .long 0])), (l1, .inr (1, [.int 0, .ref a0, .int 0]))]) (va_A [(m0, .inr (12, [.int 0, .ref l1, .ref l2, .int 0, .int 0, .int 0, .long 0])), (l1, .inr (1, [.int 0, .ref a0, .int 0]))] sz)) 0 0 (va_A [(m0, .inr (12, [.int 0, .ref l1, .ref l2, .int 0, .int 0, .int 0, .long 0])), (l1, .inr (1, [.int 0, .ref a0, .int 0]))] sz) := by
  refine Met.ofW (cc := cX10_isMachine) (maxL := 2) (ret := (some .boolean)) (by decide) rfl ?_
  intro p e s m args below meth c s₁ B hml hv
  obtain ⟨rfl, hsz, hP, hK, hD0, hZ⟩ := hv
  have hx := B.exec
  have hb := B.bytes
  have hr := B.returns
  have hts := atoms_spec (ws := zs_c_X10_isMachine) B.pre
  have hown : s.vm.findClass RX10 = some m.cls := findClass_of_methodNamed B.named
  have hlocks := B.notSynchronized
  have hiX10 : ∀ w ∈ wsX100, w ∈ zs_c_X10_isMachine := by decide +kernel
  subst hsz
  have hD := hD0.self (sz := s.heap.size)
  generalize hAe : va_A [(m0, .inr (12, [.int 0, .ref l1, .ref l2, .int 0, .int 0, .int 0, .long 0])), (l1, .inr (1, [.int 0, .ref a0, .int 0]))] s.heap.size = A at hD hZ ⊢
  have hA : ∀ q : Nat, s.heap.size ≤ q → A q := fun q h => by rw [← hAe]; exact Or.inr h
  have hS : va_S A s.heap s.heap [] := va_S.rf
  have hl := lv_entry ([.ref m0, .int p0]) (n := 2) (Nat.le_of_ble_eq_true rfl)
  rw [lg_entry_eq]
  generalize (lg_sl ([.ref m0, .int p0]) ++ List.replicate (2 - (lg_sl ([.ref m0, .int p0])).length) Slot.unset).toArray = ls at hl ⊢
  have hl : lv_has ls 2 [(0, .ref m0), (1, .int p0)] := hl
  refine lv_iload_n hx hb dX10_isMachine_0 rfl (lv_at hl 1 rfl) ?_
  refine lv_iconst (v := 0) hx hb dX10_isMachine_1 (by decide) ?_
  refine lv_aload_n hx hb dX10_isMachine_2 rfl (lv_at hl 0 rfl) ?_
  refine va_get (D := (dC, dI)) (ci := 12) (v := .ref l1) (C := RX10) (T := TX10) (N := 7) hx hb hts hiX10 hown hK hP 0 rfl rfl 1 (by decide) (hts (.fieldLink RX10 10 "HaltingaleModel" "machines" "Ljava/util/ArrayList;") (by decide +kernel)) (fun _ h9 => h9) rfl dX10_isMachine_3 ?_
  have hPc := hP.sub (ws' := [(l1, .inr (1, [.int 0, .ref a0, .int 0]))]) [1] rfl
  have hDc := hD.sub (ws' := [(l1, .inr (1, [.int 0, .ref a0, .int 0]))]) [1] (by decide) rfl
  have hKc := hK.sub (tys' := []) [] rfl
  have hFc := va_free (wc := [(l1, .inr (1, [.int 0, .ref a0, .int 0]))]) hD hS hA [1] rfl
  have hZc := ((hZ.kept hS.2.1).narrow hFc)
  refine va_calli (va_runV (As := []) (rest := [.int 0, .int p0]) ⟨hx, hb, hml, hown, hts⟩ (c_Jx4a65c_size_8abf5 l hnt dC dI a0 l1 0 a0 0 s.heap.size ) (cwV 0 hts (goodIn_of _ (by decide +kernel)) rfl rfl rfl (by decide +kernel) ⟨Nat.le_of_ble_eq_true rfl, Nat.le_of_ble_eq_true rfl⟩) ⟨fun a U g mk q => by obtain ⟨q0, q1, qP, qK, qD, qZ⟩ := q; exact ⟨q0, q1, qP, va_K.moved (u := U) (U := U.calling g mk a) (Vm.Alike.refl U.vm) qK, qD, qZ.call⟩, va_recv hKc hPc (ci := 1) (q0 := 0) rfl rfl, fun U hU hW => ⟨rfl, by rw [hU], by rw [hU]; exact hPc, va_K.moved hW.alike hKc, hDc.weaken (fun _ _ _ _ => trivial), by rw [hU]; exact hZc.warm hW⟩⟩ rfl rfl hl.1 rfl (lv_room (Nat.le_of_ble_eq_true rfl)) dX10_isMachine_6 ⟨Nat.le_of_ble_eq_true rfl, Nat.le_of_ble_eq_true rfl⟩) hS (fun q _ h => hFc q h) hFc (fun r_1 u t H1 locs ht hvm hw hB hz1 hk1 hS => ?_)
  obtain ⟨hP1, hK1, hD1⟩ := hB
  rw [ht] at hP1
  have hK1 := va_K.moved hvm.symm hK1
  obtain ⟨hP, hD⟩ := va_join (wr := [(m0, .inr (12, [.int 0, .ref l1, .ref l2, .int 0, .int 0, .int 0, .long 0]))]) (w1 := [(l1, .inr (1, [.int 0, .ref a0, .int 0]))]) hP hD [1] [0] rfl rfl (by decide) (by decide) hk1 hFc hP1 hD1
  have hK := (hK.sub (tys' := []) [] rfl).app hK1
  generalize H1 = H at hP hS ⊢
  have hP : va_P (dC, dI) vwCl [(m0, .inr (12, [.int 0, .ref l1, .ref l2, .int 0, .int 0, .int 0, .long 0])), (l1, .inr (1, [.int 0, .ref a0, .int 0]))] H := hP
  have hD : va_D A [(m0, .inr (12, [.int 0, .ref l1, .ref l2, .int 0, .int 0, .int 0, .long 0])), (l1, .inr (1, [.int 0, .ref a0, .int 0]))] := hD
  have hK : va_K (dC, dI) vwCl [] s := hK
  refine W.widen (k := 0) (n := 0) (Nat.le_of_ble_eq_true rfl) (Nat.le_of_ble_eq_true rfl) ?_
  obtain rfl : r_1 = 0 := hw
  refine lv_iconst (v := 1) hx hb dX10_isMachine_9 (by decide) ?_
  refine lv_isub hx hb dX10_isMachine_10 ?_
  refine lv_topi (fun x_2 ex_2 => ?_)
  obtain rfl : x_2 = (-1) := ex_2.trans (by decide)
  have hPc := hP.sub (ws' := []) [] rfl
  have hDc := hD.sub (ws' := []) [] (by decide) rfl
  have hKc := hK.sub (tys' := []) [] rfl
  have hFc := va_free (wc := []) hD hS hA [] rfl
  have hZc := ((hZ.kept hS.2.1).narrow hFc)
  refine va_calli (va_runS (As := [.int p0, .int 0, .int (-1)]) (rest := []) ⟨hx, hb, hml, hown, hts⟩ (c_X10_is l hnt dC dI a0 p0 0 ((-1)) H.size ) (va_cwS 3 hts (goodIn_of _ (by decide +kernel)) rfl rfl rfl (by decide +kernel) ⟨Nat.le_of_ble_eq_true rfl, Nat.le_of_ble_eq_true rfl⟩) ⟨fun a U g mk q => by obtain ⟨q0, q1, qP, qK, qD, qZ⟩ := q; exact ⟨q0, q1, qP, va_K.moved (u := U) (U := U.calling g mk a) (Vm.Alike.refl U.vm) qK, qD, qZ.call⟩, fun U hU hW => ⟨rfl, by rw [hU], by rw [hU]; exact hPc, va_K.moved hW.alike hKc, hDc.weaken (fun _ _ _ _ => trivial), by rw [hU]; exact hZc.warm hW⟩⟩ rfl rfl hl.1 rfl (lv_room (Nat.le_of_ble_eq_true rfl)) dX10_isMachine_11 ⟨Nat.le_of_ble_eq_true rfl, Nat.le_of_ble_eq_true rfl⟩) hS (fun q _ h => hFc q h) hFc (fun r_3 u t H1 locs ht hvm hw hB hz1 hk1 hS => ?_)
  obtain ⟨hP1, hK1, hD1⟩ := hB
  rw [ht] at hP1
  have hK1 := va_K.moved hvm.symm hK1
  obtain ⟨hP, hD⟩ := va_join (wr := [(m0, .inr (12, [.int 0, .ref l1, .ref l2, .int 0, .int 0, .int 0, .long 0])), (l1, .inr (1, [.int 0, .ref a0, .int 0]))]) (w1 := []) hP hD [] [0, 1] rfl rfl (by decide) (by decide) hk1 hFc hP1 hD1
  have hK := (hK.sub (tys' := []) [] rfl).app hK1
  generalize H1 = H at hP hS ⊢
  have hP : va_P (dC, dI) vwCl [(m0, .inr (12, [.int 0, .ref l1, .ref l2, .int 0, .int 0, .int 0, .long 0])), (l1, .inr (1, [.int 0, .ref a0, .int 0]))] H := hP
  have hD : va_D A [(m0, .inr (12, [.int 0, .ref l1, .ref l2, .int 0, .int 0, .int 0, .long 0])), (l1, .inr (1, [.int 0, .ref a0, .int 0]))] := hD
  have hK : va_K (dC, dI) vwCl [] s := hK
  refine W.widen (k := 0) (n := 0) (Nat.le_of_ble_eq_true rfl) (Nat.le_of_ble_eq_true rfl) ?_
  obtain rfl : r_3 = 0 := hw.trans (zw_none p0)
  have hP9 := hP.sub (ws' := [(m0, .inr (12, [.int 0, .ref l1, .ref l2, .int 0, .int 0, .int 0, .long 0])), (l1, .inr (1, [.int 0, .ref a0, .int 0]))]) [0, 1] rfl
  have hD9 := hD.sub (ws' := [(m0, .inr (12, [.int 0, .ref l1, .ref l2, .int 0, .int 0, .int 0, .long 0])), (l1, .inr (1, [.int 0, .ref a0, .int 0]))]) [0, 1] (by decide) rfl
  have hK9 := hK.sub (tys' := []) [] rfl
  refine W.widen (k := 0) (n := 0) (Nat.le_of_ble_eq_true rfl) (Nat.le_of_ble_eq_true rfl) ?_
  exact W.zret (v := 0) hx hb hr (by decide) (fun t ht hW => ⟨⟨0, (), rfl, rfl, ⟨by rw [ht]; exact hP9, va_K.moved hW.alike hK9, hD9⟩⟩, hS.F ht⟩) hS.2.2 dX10_isMachine_14

def zs_c_X10_refuse : List Cond := .code yX10_refuse cX10_refuse 2 (some .int) :: (([.fieldLink RX10 19 "HaltingaleModel" "thrown" "I"] : List Cond) ++ wsX100)
set_option maxHeartbeats 4000000 in
set_option maxRecDepth 100000 in
/-- refuse -/
theorem c_X10_refuse (l : Launch) (hnt : l.stackTraces = false) (dC : Nat → ClassId) (dI : Nat → Nat → Nat) (a0 : Nat) (m0 : Nat) (l1 : Nat) (l2 : Nat) (p0 : Int32) (sz : Nat)  : Met l yX10_refuse zs_c_X10_refuse ({ frames := 0, cells := 0, slots := 0, locals := 0 }) (va_Pc [.ref m0, .int p0] (fun U => U.heap.size = sz ∧ va_P (dC, dI) vwCl [(m0, .inr (12, [.int 0, .ref l1, .ref l2, .int 0, .int 0, .int 0, .long 0]))] U.heap ∧ va_K (dC, dI) vwCl [] U ∧ va_D (fun _ => True) [(m0, .inr (12, [.int 0, .ref l1, .ref l2, .int 0, .int 0, .int 0, .long 0]))] ∧ zB a0 (va_A [(m0, .inr (12, [.int 0, .ref l1, .ref l2, .int 0, .int 0, .int 0, .long 0]))] sz) U U.heap)) (va_Qi (fun (r : Int32) (_ : Unit) => r = 0) (fun _ t => va_P (dC, dI) vwCl [(m0, .inr (12, [.int p0, .ref l1, .ref l2, .int 0, .int 0, .int 0, .long 0]))] t.heap ∧ va_K (dC, dI) vwCl [] t ∧ va_D (va_A [(m0, .inr (12, [.int 0, .ref l1, .ref l2, .int 0, .int 0, .int 0, .long 0]))] sz) [(m0, .inr (12, [.int p0, .ref l1, .ref l2, .int 0, .int 0, .int 0, .long 0]))]) (va_A [(m0, .inr (12, [.int 0, .ref l1, .ref l2, .int 0, .int 0, .int 0, .long 0]))] sz)) 0 0 (va_A [(m0, .inr (12, [.int 0, .ref l1, .ref l2, .int 0, .int 0, .int 0, .long 0]))] sz) := by
  refine Met.ofW (cc := cX10_refuse) (maxL := 2) (ret := (some .int)) (by decide) rfl ?_
  intro p e s m args below meth c s₁ B hml hv
  obtain ⟨rfl, hsz, hP, hK, hD0, hZ⟩ := hv
  have hx := B.exec
  have hb := B.bytes
  have hr := B.returns
  have hts := atoms_spec (ws := zs_c_X10_refuse) B.pre
  have hown : s.vm.findClass RX10 = some m.cls := findClass_of_methodNamed B.named
  have hlocks := B.notSynchronized
  have hiX10 : ∀ w ∈ wsX100, w ∈ zs_c_X10_refuse := by decide +kernel
  subst hsz
  have hD := hD0.self (sz := s.heap.size)
  generalize hAe : va_A [(m0, .inr (12, [.int 0, .ref l1, .ref l2, .int 0, .int 0, .int 0, .long 0]))] s.heap.size = A at hD hZ ⊢
  have hA : ∀ q : Nat, s.heap.size ≤ q → A q := fun q h => by rw [← hAe]; exact Or.inr h
  have hS : va_S A s.heap s.heap [] := va_S.rf
  have hl := lv_entry ([.ref m0, .int p0]) (n := 2) (Nat.le_of_ble_eq_true rfl)
  rw [lg_entry_eq]
  generalize (lg_sl ([.ref m0, .int p0]) ++ List.replicate (2 - (lg_sl ([.ref m0, .int p0])).length) Slot.unset).toArray = ls at hl ⊢
  have hl : lv_has ls 2 [(0, .ref m0), (1, .int p0)] := hl
  refine lv_aload_n hx hb dX10_refuse_0 rfl (lv_at hl 0 rfl) ?_
  refine lv_iload_n hx hb dX10_refuse_1 rfl (lv_at hl 1 rfl) ?_
  refine va_put (D := (dC, dI)) (ci := 12) (v := .int p0) (ty := .int) (C := RX10) (T := TX10) (N := 7) hx hb hts hiX10 tyX10 tyX10_ok nmX10 hown hK hP hD hS 0 rfl rfl 0 (by decide) (hts (.fieldLink RX10 19 "HaltingaleModel" "thrown" "I") (by decide +kernel)) (fun _ h9 => h9) rfl (by decide +kernel) rfl rfl (Nat.le_of_ble_eq_true rfl) dX10_refuse_2 (fun H locs hP hD hS => ?_)
  have hP : va_P (dC, dI) vwCl [(m0, .inr (12, [.int p0, .ref l1, .ref l2, .int 0, .int 0, .int 0, .long 0]))] H := hP
  have hD : va_D A [(m0, .inr (12, [.int p0, .ref l1, .ref l2, .int 0, .int 0, .int 0, .long 0]))] := hD
  refine lv_iconst (v := 0) hx hb dX10_refuse_5 (by decide) ?_
  have hP9 := hP.sub (ws' := [(m0, .inr (12, [.int p0, .ref l1, .ref l2, .int 0, .int 0, .int 0, .long 0]))]) [0] rfl
  have hD9 := hD.sub (ws' := [(m0, .inr (12, [.int p0, .ref l1, .ref l2, .int 0, .int 0, .int 0, .long 0]))]) [0] (by decide) rfl
  have hK9 := hK.sub (tys' := []) [] rfl
  refine W.widen (k := 0) (n := 0) (Nat.le_of_ble_eq_true rfl) (Nat.le_of_ble_eq_true rfl) ?_
  exact W.iret (v := 0) hx hb hr (fun t ht hW => ⟨⟨0, (), rfl, rfl, ⟨by rw [ht]; exact hP9, va_K.moved hW.alike hK9, hD9⟩⟩, hS.F ht⟩) hS.2.2 dX10_refuse_6

def zs_c_X10_thrown : List Cond := .code yX10_thrown cX10_thrown 1 (some .int) :: (([.fieldLink RX10 19 "HaltingaleModel" "thrown" "I"] : List Cond) ++ wsX100)
set_option maxHeartbeats 4000000 in
set_option maxRecDepth 100000 in
/-- thrown -/
theorem c_X10_thrown (l : Launch) (hnt : l.stackTraces = false) (dC : Nat → ClassId) (dI : Nat → Nat → Nat) (a0 : Nat) (m0 : Nat) (l1 : Nat) (l2 : Nat) (p0 : Int32) (sz : Nat)  : Met l yX10_thrown zs_c_X10_thrown ({ frames := 0, cells := 0, slots := 0, locals := 0 }) (va_Pc [.ref m0] (fun U => U.heap.size = sz ∧ va_P (dC, dI) vwCl [(m0, .inr (12, [.int p0, .ref l1, .ref l2, .int 0, .int 0, .int 0, .long 0]))] U.heap ∧ va_K (dC, dI) vwCl [] U ∧ va_D (fun _ => True) [(m0, .inr (12, [.int p0, .ref l1, .ref l2, .int 0, .int 0, .int 0, .long 0]))] ∧ zB a0 (va_A [(m0, .inr (12, [.int p0, .ref l1, .ref l2, .int 0, .int 0, .int 0, .long 0]))] sz) U U.heap)) (va_Qi (fun (r : Int32) (_ : Unit) => r = p0) (fun _ t => va_P (dC, dI) vwCl [] t.heap ∧ va_K (dC, dI) vwCl [] t ∧ va_D (va_A [(m0, .inr (12, [.int p0, .ref l1, .ref l2, .int 0, .int 0, .int 0, .long 0]))] sz) []) (va_A [(m0, .inr (12, [.int p0, .ref l1, .ref l2, .int 0, .int 0, .int 0, .long 0]))] sz)) 0 0 (va_A [(m0, .inr (12, [.int p0, .ref l1, .ref l2, .int 0, .int 0, .int 0, .long 0]))] sz) := by
  refine Met.ofW (cc := cX10_thrown) (maxL := 1) (ret := (some .int)) (by decide) rfl ?_
  intro p e s m args below meth c s₁ B hml hv
  obtain ⟨rfl, hsz, hP, hK, hD0, hZ⟩ := hv
  have hx := B.exec
  have hb := B.bytes
  have hr := B.returns
  have hts := atoms_spec (ws := zs_c_X10_thrown) B.pre
  have hown : s.vm.findClass RX10 = some m.cls := findClass_of_methodNamed B.named
  have hlocks := B.notSynchronized
  have hiX10 : ∀ w ∈ wsX100, w ∈ zs_c_X10_thrown := by decide +kernel
  subst hsz
  have hD := hD0.self (sz := s.heap.size)
  generalize hAe : va_A [(m0, .inr (12, [.int p0, .ref l1, .ref l2, .int 0, .int 0, .int 0, .long 0]))] s.heap.size = A at hD hZ ⊢
  have hA : ∀ q : Nat, s.heap.size ≤ q → A q := fun q h => by rw [← hAe]; exact Or.inr h
  have hS : va_S A s.heap s.heap [] := va_S.rf
  have hl := lv_entry ([.ref m0]) (n := 1) (Nat.le_of_ble_eq_true rfl)
  rw [lg_entry_eq]
  generalize (lg_sl ([.ref m0]) ++ List.replicate (1 - (lg_sl ([.ref m0])).length) Slot.unset).toArray = ls at hl ⊢
  have hl : lv_has ls 1 [(0, .ref m0)] := hl
  refine lv_aload_n hx hb dX10_thrown_0 rfl (lv_at hl 0 rfl) ?_
  refine va_get (D := (dC, dI)) (ci := 12) (v := .int p0) (C := RX10) (T := TX10) (N := 7) hx hb hts hiX10 hown hK hP 0 rfl rfl 0 (by decide) (hts (.fieldLink RX10 19 "HaltingaleModel" "thrown" "I") (by decide +kernel)) (fun _ h9 => h9) rfl dX10_thrown_1 ?_
  have hP9 := hP.sub (ws' := []) [] rfl
  have hD9 := hD.sub (ws' := []) [] (by decide) rfl
  have hK9 := hK.sub (tys' := []) [] rfl
  refine W.widen (k := 0) (n := 0) (Nat.le_of_ble_eq_true rfl) (Nat.le_of_ble_eq_true rfl) ?_
  exact W.iret (v := p0) hx hb hr (fun t ht hW => ⟨⟨p0, (), rfl, rfl, ⟨by rw [ht]; exact hP9, va_K.moved hW.alike hK9, hD9⟩⟩, hS.F ht⟩) hS.2.2 dX10_thrown_4

def zs_c_X10_thrown_s : List Cond := .code yX10_thrown cX10_thrown 1 (some .int) :: (([.fieldLink RX10 19 "HaltingaleModel" "thrown" "I"] : List Cond) ++ wsX100)
set_option maxHeartbeats 4000000 in
set_option maxRecDepth 100000 in
/-- thrown -/
theorem c_X10_thrown_s (l : Launch) (hnt : l.stackTraces = false) (dC : Nat → ClassId) (dI : Nat → Nat → Nat) (a0 : Nat) (m0 : Nat) (l1 : Nat) (l2 : Nat) (p0 : Int32) (s0 : Int64) (sz : Nat)  : Met l yX10_thrown zs_c_X10_thrown_s ({ frames := 0, cells := 0, slots := 0, locals := 0 }) (va_Pc [.ref m0] (fun U => U.heap.size = sz ∧ va_P (dC, dI) vwCl [(m0, .inr (12, [.int p0, .ref l1, .ref l2, .int 0, .int 0, .int 0, .long s0]))] U.heap ∧ va_K (dC, dI) vwCl [] U ∧ va_D (fun _ => True) [(m0, .inr (12, [.int p0, .ref l1, .ref l2, .int 0, .int 0, .int 0, .long s0]))] ∧ zB a0 (va_A [(m0, .inr (12, [.int p0, .ref l1, .ref l2, .int 0, .int 0, .int 0, .long s0]))] sz) U U.heap)) (va_Qi (fun (r : Int32) (_ : Unit) => r = p0) (fun _ t => va_P (dC, dI) vwCl [] t.heap ∧ va_K (dC, dI) vwCl [] t ∧ va_D (va_A [(m0, .inr (12, [.int p0, .ref l1, .ref l2, .int 0, .int 0, .int 0, .long s0]))] sz) []) (va_A [(m0, .inr (12, [.int p0, .ref l1, .ref l2, .int 0, .int 0, .int 0, .long s0]))] sz)) 0 0 (va_A [(m0, .inr (12, [.int p0, .ref l1, .ref l2, .int 0, .int 0, .int 0, .long s0]))] sz) := by
  refine Met.ofW (cc := cX10_thrown) (maxL := 1) (ret := (some .int)) (by decide) rfl ?_
  intro p e s m args below meth c s₁ B hml hv
  obtain ⟨rfl, hsz, hP, hK, hD0, hZ⟩ := hv
  have hx := B.exec
  have hb := B.bytes
  have hr := B.returns
  have hts := atoms_spec (ws := zs_c_X10_thrown_s) B.pre
  have hown : s.vm.findClass RX10 = some m.cls := findClass_of_methodNamed B.named
  have hlocks := B.notSynchronized
  have hiX10 : ∀ w ∈ wsX100, w ∈ zs_c_X10_thrown_s := by decide +kernel
  subst hsz
  have hD := hD0.self (sz := s.heap.size)
  generalize hAe : va_A [(m0, .inr (12, [.int p0, .ref l1, .ref l2, .int 0, .int 0, .int 0, .long s0]))] s.heap.size = A at hD hZ ⊢
  have hA : ∀ q : Nat, s.heap.size ≤ q → A q := fun q h => by rw [← hAe]; exact Or.inr h
  have hS : va_S A s.heap s.heap [] := va_S.rf
  have hl := lv_entry ([.ref m0]) (n := 1) (Nat.le_of_ble_eq_true rfl)
  rw [lg_entry_eq]
  generalize (lg_sl ([.ref m0]) ++ List.replicate (1 - (lg_sl ([.ref m0])).length) Slot.unset).toArray = ls at hl ⊢
  have hl : lv_has ls 1 [(0, .ref m0)] := hl
  refine lv_aload_n hx hb dX10_thrown_0 rfl (lv_at hl 0 rfl) ?_
  refine va_get (D := (dC, dI)) (ci := 12) (v := .int p0) (C := RX10) (T := TX10) (N := 7) hx hb hts hiX10 hown hK hP 0 rfl rfl 0 (by decide) (hts (.fieldLink RX10 19 "HaltingaleModel" "thrown" "I") (by decide +kernel)) (fun _ h9 => h9) rfl dX10_thrown_1 ?_
  have hP9 := hP.sub (ws' := []) [] rfl
  have hD9 := hD.sub (ws' := []) [] (by decide) rfl
  have hK9 := hK.sub (tys' := []) [] rfl
  refine W.widen (k := 0) (n := 0) (Nat.le_of_ble_eq_true rfl) (Nat.le_of_ble_eq_true rfl) ?_
  exact W.iret (v := p0) hx hb hr (fun t ht hW => ⟨⟨p0, (), rfl, rfl, ⟨by rw [ht]; exact hP9, va_K.moved hW.alike hK9, hD9⟩⟩, hS.F ht⟩) hS.2.2 dX10_thrown_4

def zs_c_X10_refused : List Cond := .code yX10_refused cX10_refused 9 (some .int) :: (([.code yX10_isMachine cX10_isMachine 2 (some .boolean), .fieldLink RX10 10 "HaltingaleModel" "machines" "Ljava/util/ArrayList;", .code yJx4a65c_size_8abf5 cJx4a65c_size_8abf5 1 (some .int), .fieldLink RJx4a65c 48 "java/util/ArrayList" "size" "I", .methodLink RX10 23 yJx4a65c_size_8abf5, .instanceMethod yJx4a65c_size_8abf5, .initialized RJx4a65c, .selects RJx4a65c yJx4a65c_size_8abf5 yJx4a65c_size_8abf5, .code yX10_is cX10_is 3 (some .boolean), .methodLink RX10 27 yX10_is, .static yX10_is, .initialized RX10, .methodLink RX10 44 yX10_isMachine, .instanceMethod yX10_isMachine, .selects RX10 yX10_isMachine yX10_isMachine] : List Cond) ++ wsX100 ++ wsJx4a65c0)
set_option maxHeartbeats 4000000 in
set_option maxRecDepth 100000 in
/-- refused -/
theorem c_X10_refused (l : Launch) (hnt : l.stackTraces = false) (dC : Nat → ClassId) (dI : Nat → Nat → Nat) (a0 : Nat) (m0 : Nat) (l1 : Nat) (l2 : Nat) (p0 : Int32) (p1 : Int32) (p2 : Int32) (p3 : Int32) (p4 : Int32) (p5 : Int32) (p6 : Int32) (sz : Nat)  : Met l yX10_refused zs_c_X10_refused ({ frames := 2, cells := 0, slots := 0, locals := 43 }) (va_Pc [.ref m0, .int p0, .int p1, .int p2, .int p3, .int p4, .int p5, .int p6] (fun U => U.heap.size = sz ∧ va_P (dC, dI) vwCl [(m0, .inr (12, [.int 0, .ref l1, .ref l2, .int 0, .int 0, .int 0, .long 0])), (l1, .inr (1, [.int 0, .ref a0, .int 0]))] U.heap ∧ va_K (dC, dI) vwCl [] U ∧ va_D (fun _ => True) [(m0, .inr (12, [.int 0, .ref l1, .ref l2, .int 0, .int 0, .int 0, .long 0])), (l1, .inr (1, [.int 0, .ref a0, .int 0]))] ∧ zB a0 (va_A [(m0, .inr (12, [.int 0, .ref l1, .ref l2, .int 0, .int 0, .int 0, .long 0])), (l1, .inr (1, [.int 0, .ref a0, .int 0]))] sz) U U.heap)) (va_Qi (fun (r : Int32) (_ : Unit) => r = 1) (fun _ t => va_P (dC, dI) vwCl [(m0, .inr (12, [.int 0, .ref l1, .ref l2, .int 0, .int 0, .int 0, .long 0])), (l1, .inr (1, [.int 0, .ref a0, .int 0]))] t.heap ∧ va_K (dC, dI) vwCl [] t ∧ va_D (va_A [(m0, .inr (12, [.int 0, .ref l1, .ref l2, .int 0, .int 0, .int 0, .long 0])), (l1, .inr (1, [.int 0, .ref a0, .int 0]))] sz) [(m0, .inr (12, [.int 0, .ref l1, .ref l2, .int 0, .int 0, .int 0, .long 0])), (l1, .inr (1, [.int 0, .ref a0, .int 0]))]) (va_A [(m0, .inr (12, [.int 0, .ref l1, .ref l2, .int 0, .int 0, .int 0, .long 0])), (l1, .inr (1, [.int 0, .ref a0, .int 0]))] sz)) 0 0 (va_A [(m0, .inr (12, [.int 0, .ref l1, .ref l2, .int 0, .int 0, .int 0, .long 0])), (l1, .inr (1, [.int 0, .ref a0, .int 0]))] sz) := by
  refine Met.ofW (cc := cX10_refused) (maxL := 9) (ret := (some .int)) (by decide) rfl ?_
  intro p e s m args below meth c s₁ B hml hv
  obtain ⟨rfl, hsz, hP, hK, hD0, hZ⟩ := hv
  have hx := B.exec
  have hb := B.bytes
  have hr := B.returns
  have hts := atoms_spec (ws := zs_c_X10_refused) B.pre
  have hown : s.vm.findClass RX10 = some m.cls := findClass_of_methodNamed B.named
  have hlocks := B.notSynchronized
  subst hsz
  have hD := hD0.self (sz := s.heap.size)
  generalize hAe : va_A [(m0, .inr (12, [.int 0, .ref l1, .ref l2, .int 0, .int 0, .int 0, .long 0])), (l1, .inr (1, [.int 0, .ref a0, .int 0]))] s.heap.size = A at hD hZ ⊢
  have hA : ∀ q : Nat, s.heap.size ≤ q → A q := fun q h => by rw [← hAe]; exact Or.inr h
  have hS : va_S A s.heap s.heap [] := va_S.rf
  have hl := lv_entry ([.ref m0, .int p0, .int p1, .int p2, .int p3, .int p4, .int p5, .int p6]) (n := 9) (Nat.le_of_ble_eq_true rfl)
  rw [lg_entry_eq]
  generalize (lg_sl ([.ref m0, .int p0, .int p1, .int p2, .int p3, .int p4, .int p5, .int p6]) ++ List.replicate (9 - (lg_sl ([.ref m0, .int p0, .int p1, .int p2, .int p3, .int p4, .int p5, .int p6])).length) Slot.unset).toArray = ls at hl ⊢
  have hl : lv_has ls 9 [(0, .ref m0), (1, .int p0), (2, .int p1), (3, .int p2), (4, .int p3), (5, .int p4), (6, .int p5), (7, .int p6)] := hl
  refine lv_aload_n hx hb dX10_refused_0 rfl (lv_at hl 0 rfl) ?_
  refine lv_iload_n hx hb dX10_refused_1 rfl (lv_at hl 1 rfl) ?_
  have hPc := hP.sub (ws' := [(m0, .inr (12, [.int 0, .ref l1, .ref l2, .int 0, .int 0, .int 0, .long 0])), (l1, .inr (1, [.int 0, .ref a0, .int 0]))]) [0, 1] rfl
  have hDc := hD.sub (ws' := [(m0, .inr (12, [.int 0, .ref l1, .ref l2, .int 0, .int 0, .int 0, .long 0])), (l1, .inr (1, [.int 0, .ref a0, .int 0]))]) [0, 1] (by decide) rfl
  have hKc := hK.sub (tys' := []) [] rfl
  have hFc := va_free (wc := [(m0, .inr (12, [.int 0, .ref l1, .ref l2, .int 0, .int 0, .int 0, .long 0])), (l1, .inr (1, [.int 0, .ref a0, .int 0]))]) hD hS hA [0, 1] rfl
  have hZc := ((hZ.kept hS.2.1).narrow hFc)
  refine va_calli (va_runV (As := [.int p0]) (rest := []) ⟨hx, hb, hml, hown, hts⟩ (c_X10_isMachine l hnt dC dI a0 m0 l1 l2 p0 s.heap.size ) (cwV 1 hts (goodIn_of _ (by decide +kernel)) rfl rfl rfl (by decide +kernel) ⟨Nat.le_of_ble_eq_true rfl, Nat.le_of_ble_eq_true rfl⟩) ⟨fun a U g mk q => by obtain ⟨q0, q1, qP, qK, qD, qZ⟩ := q; exact ⟨q0, q1, qP, va_K.moved (u := U) (U := U.calling g mk a) (Vm.Alike.refl U.vm) qK, qD, qZ.call⟩, va_recv hKc hPc (ci := 12) (q0 := 0) rfl rfl, fun U hU hW => ⟨rfl, by rw [hU], by rw [hU]; exact hPc, va_K.moved hW.alike hKc, hDc.weaken (fun _ _ _ _ => trivial), by rw [hU]; exact hZc.warm hW⟩⟩ rfl rfl hl.1 rfl (lv_room (Nat.le_of_ble_eq_true rfl)) dX10_refused_2 ⟨Nat.le_of_ble_eq_true rfl, Nat.le_of_ble_eq_true rfl⟩) hS (fun q _ h => hFc q h) hFc (fun r_1 u t H1 locs ht hvm hw hB hz1 hk1 hS => ?_)
  obtain ⟨hP1, hK1, hD1⟩ := hB
  rw [ht] at hP1
  have hK1 := va_K.moved hvm.symm hK1
  obtain ⟨hP, hD⟩ := va_join (wr := []) (w1 := [(m0, .inr (12, [.int 0, .ref l1, .ref l2, .int 0, .int 0, .int 0, .long 0])), (l1, .inr (1, [.int 0, .ref a0, .int 0]))]) hP hD [0, 1] [] rfl rfl (by decide) (by decide) hk1 hFc hP1 hD1
  have hK := (hK.sub (tys' := []) [] rfl).app hK1
  generalize H1 = H at hP hS ⊢
  have hP : va_P (dC, dI) vwCl [(m0, .inr (12, [.int 0, .ref l1, .ref l2, .int 0, .int 0, .int 0, .long 0])), (l1, .inr (1, [.int 0, .ref a0, .int 0]))] H := hP
  have hD : va_D A [(m0, .inr (12, [.int 0, .ref l1, .ref l2, .int 0, .int 0, .int 0, .long 0])), (l1, .inr (1, [.int 0, .ref a0, .int 0]))] := hD
  have hK : va_K (dC, dI) vwCl [] s := hK
  refine W.widen (k := 0) (n := 0) (Nat.le_of_ble_eq_true rfl) (Nat.le_of_ble_eq_true rfl) ?_
  obtain rfl : r_1 = 0 := hw
  refine lv_if_eq (tgt := 41) hx hb dX10_refused_5 (by decide) (fun c_2 => ?_) (fun c_2 => ?_)
  rotate_left
  · (first | exact absurd c_2 (by decide) | exact absurd (by decide) c_2)
  refine lv_iconst (v := 1) hx hb dX10_refused_41 (by decide) ?_
  have hP9 := hP.sub (ws' := [(m0, .inr (12, [.int 0, .ref l1, .ref l2, .int 0, .int 0, .int 0, .long 0])), (l1, .inr (1, [.int 0, .ref a0, .int 0]))]) [0, 1] rfl
  have hD9 := hD.sub (ws' := [(m0, .inr (12, [.int 0, .ref l1, .ref l2, .int 0, .int 0, .int 0, .long 0])), (l1, .inr (1, [.int 0, .ref a0, .int 0]))]) [0, 1] (by decide) rfl
  have hK9 := hK.sub (tys' := []) [] rfl
  refine W.widen (k := 0) (n := 0) (Nat.le_of_ble_eq_true rfl) (Nat.le_of_ble_eq_true rfl) ?_
  exact W.iret (v := 1) hx hb hr (fun t ht hW => ⟨⟨1, (), rfl, rfl, ⟨by rw [ht]; exact hP9, va_K.moved hW.alike hK9, hD9⟩⟩, hS.F ht⟩) hS.2.2 dX10_refused_42

def zs_c_X10_tell : List Cond := .code yX10_tell cX10_tell 7 (some .int) :: (([.code yX10_refused cX10_refused 9 (some .int), .code yX10_isMachine cX10_isMachine 2 (some .boolean), .fieldLink RX10 10 "HaltingaleModel" "machines" "Ljava/util/ArrayList;", .code yJx4a65c_size_8abf5 cJx4a65c_size_8abf5 1 (some .int), .fieldLink RJx4a65c 48 "java/util/ArrayList" "size" "I", .methodLink RX10 23 yJx4a65c_size_8abf5, .instanceMethod yJx4a65c_size_8abf5, .initialized RJx4a65c, .selects RJx4a65c yJx4a65c_size_8abf5 yJx4a65c_size_8abf5, .code yX10_is cX10_is 3 (some .boolean), .methodLink RX10 27 yX10_is, .static yX10_is, .initialized RX10, .methodLink RX10 44 yX10_isMachine, .instanceMethod yX10_isMachine, .selects RX10 yX10_isMachine yX10_isMachine, .methodLink RX10 70 yX10_refused, .instanceMethod yX10_refused, .selects RX10 yX10_refused yX10_refused, .fieldLink RX10 19 "HaltingaleModel" "thrown" "I"] : List Cond) ++ wsX100 ++ wsJx4a65c0)
set_option maxHeartbeats 4000000 in
set_option maxRecDepth 100000 in
/-- tell of no machine -/
theorem c_X10_tell (l : Launch) (hnt : l.stackTraces = false) (dC : Nat → ClassId) (dI : Nat → Nat → Nat) (a0 : Nat) (m0 : Nat) (l1 : Nat) (l2 : Nat) (p0 : Int32) (p1 : Int32) (p2 : Int32) (p3 : Int32) (p4 : Int32) (p5 : Int32) (sz : Nat)  : Met l yX10_tell zs_c_X10_tell ({ frames := 3, cells := 0, slots := 0, locals := 71 }) (va_Pc [.ref m0, .int p0, .int p1, .int p2, .int p3, .int p4, .int p5] (fun U => U.heap.size = sz ∧ va_P (dC, dI) vwCl [(m0, .inr (12, [.int 0, .ref l1, .ref l2, .int 0, .int 0, .int 0, .long 0])), (l1, .inr (1, [.int 0, .ref a0, .int 0]))] U.heap ∧ va_K (dC, dI) vwCl [] U ∧ va_D (fun _ => True) [(m0, .inr (12, [.int 0, .ref l1, .ref l2, .int 0, .int 0, .int 0, .long 0])), (l1, .inr (1, [.int 0, .ref a0, .int 0]))] ∧ zB a0 (va_A [(m0, .inr (12, [.int 0, .ref l1, .ref l2, .int 0, .int 0, .int 0, .long 0])), (l1, .inr (1, [.int 0, .ref a0, .int 0]))] sz) U U.heap)) (va_Qi (fun (r : Int32) (_ : Unit) => r = 0) (fun _ t => va_P (dC, dI) vwCl [(m0, .inr (12, [.int 1, .ref l1, .ref l2, .int 0, .int 0, .int 0, .long 0]))] t.heap ∧ va_K (dC, dI) vwCl [] t ∧ va_D (va_A [(m0, .inr (12, [.int 0, .ref l1, .ref l2, .int 0, .int 0, .int 0, .long 0])), (l1, .inr (1, [.int 0, .ref a0, .int 0]))] sz) [(m0, .inr (12, [.int 1, .ref l1, .ref l2, .int 0, .int 0, .int 0, .long 0]))]) (va_A [(m0, .inr (12, [.int 0, .ref l1, .ref l2, .int 0, .int 0, .int 0, .long 0])), (l1, .inr (1, [.int 0, .ref a0, .int 0]))] sz)) 0 0 (va_A [(m0, .inr (12, [.int 0, .ref l1, .ref l2, .int 0, .int 0, .int 0, .long 0])), (l1, .inr (1, [.int 0, .ref a0, .int 0]))] sz) := by
  refine Met.ofW (cc := cX10_tell) (maxL := 7) (ret := (some .int)) (by decide) rfl ?_
  intro p e s m args below meth c s₁ B hml hv
  obtain ⟨rfl, hsz, hP, hK, hD0, hZ⟩ := hv
  have hx := B.exec
  have hb := B.bytes
  have hr := B.returns
  have hts := atoms_spec (ws := zs_c_X10_tell) B.pre
  have hown : s.vm.findClass RX10 = some m.cls := findClass_of_methodNamed B.named
  have hlocks := B.notSynchronized
  have hiX10 : ∀ w ∈ wsX100, w ∈ zs_c_X10_tell := by decide +kernel
  subst hsz
  have hD := hD0.self (sz := s.heap.size)
  generalize hAe : va_A [(m0, .inr (12, [.int 0, .ref l1, .ref l2, .int 0, .int 0, .int 0, .long 0])), (l1, .inr (1, [.int 0, .ref a0, .int 0]))] s.heap.size = A at hD hZ ⊢
  have hA : ∀ q : Nat, s.heap.size ≤ q → A q := fun q h => by rw [← hAe]; exact Or.inr h
  have hS : va_S A s.heap s.heap [] := va_S.rf
  have hl := lv_entry ([.ref m0, .int p0, .int p1, .int p2, .int p3, .int p4, .int p5]) (n := 7) (Nat.le_of_ble_eq_true rfl)
  rw [lg_entry_eq]
  generalize (lg_sl ([.ref m0, .int p0, .int p1, .int p2, .int p3, .int p4, .int p5]) ++ List.replicate (7 - (lg_sl ([.ref m0, .int p0, .int p1, .int p2, .int p3, .int p4, .int p5])).length) Slot.unset).toArray = ls at hl ⊢
  have hl : lv_has ls 7 [(0, .ref m0), (1, .int p0), (2, .int p1), (3, .int p2), (4, .int p3), (5, .int p4), (6, .int p5)] := hl
  refine lv_aload_n hx hb dX10_tell_0 rfl (lv_at hl 0 rfl) ?_
  refine lv_aload_n hx hb dX10_tell_1 rfl (lv_at hl 0 rfl) ?_
  refine lv_iload_n hx hb dX10_tell_2 rfl (lv_at hl 1 rfl) ?_
  refine lv_iload_n hx hb dX10_tell_3 rfl (lv_at hl 2 rfl) ?_
  refine lv_iload_n hx hb dX10_tell_4 rfl (lv_at hl 3 rfl) ?_
  refine lv_iload hx hb dX10_tell_5 (lv_at hl 4 rfl) ?_
  refine lv_iload hx hb dX10_tell_7 (lv_at hl 5 rfl) ?_
  refine lv_iload hx hb dX10_tell_9 (lv_at hl 6 rfl) ?_
  refine lv_iconst (v := 1) hx hb dX10_tell_11 (by decide) ?_
  have hPc := hP.sub (ws' := [(m0, .inr (12, [.int 0, .ref l1, .ref l2, .int 0, .int 0, .int 0, .long 0])), (l1, .inr (1, [.int 0, .ref a0, .int 0]))]) [0, 1] rfl
  have hDc := hD.sub (ws' := [(m0, .inr (12, [.int 0, .ref l1, .ref l2, .int 0, .int 0, .int 0, .long 0])), (l1, .inr (1, [.int 0, .ref a0, .int 0]))]) [0, 1] (by decide) rfl
  have hKc := hK.sub (tys' := []) [] rfl
  have hFc := va_free (wc := [(m0, .inr (12, [.int 0, .ref l1, .ref l2, .int 0, .int 0, .int 0, .long 0])), (l1, .inr (1, [.int 0, .ref a0, .int 0]))]) hD hS hA [0, 1] rfl
  have hZc := ((hZ.kept hS.2.1).narrow hFc)
  refine va_calli (va_runV (As := [.int p0, .int p1, .int p2, .int p3, .int p4, .int p5, .int 1]) (rest := [.ref m0]) ⟨hx, hb, hml, hown, hts⟩ (c_X10_refused l hnt dC dI a0 m0 l1 l2 p0 p1 p2 p3 p4 p5 1 s.heap.size ) (cwV 7 hts (goodIn_of _ (by decide +kernel)) rfl rfl rfl (by decide +kernel) ⟨Nat.le_of_ble_eq_true rfl, Nat.le_of_ble_eq_true rfl⟩) ⟨fun a U g mk q => by obtain ⟨q0, q1, qP, qK, qD, qZ⟩ := q; exact ⟨q0, q1, qP, va_K.moved (u := U) (U := U.calling g mk a) (Vm.Alike.refl U.vm) qK, qD, qZ.call⟩, va_recv hKc hPc (ci := 12) (q0 := 0) rfl rfl, fun U hU hW => ⟨rfl, by rw [hU], by rw [hU]; exact hPc, va_K.moved hW.alike hKc, hDc.weaken (fun _ _ _ _ => trivial), by rw [hU]; exact hZc.warm hW⟩⟩ rfl rfl hl.1 rfl (lv_room (Nat.le_of_ble_eq_true rfl)) dX10_tell_12 ⟨Nat.le_of_ble_eq_true rfl, Nat.le_of_ble_eq_true rfl⟩) hS (fun q _ h => hFc q h) hFc (fun r_1 u t H1 locs ht hvm hw hB hz1 hk1 hS => ?_)
  obtain ⟨hP1, hK1, hD1⟩ := hB
  rw [ht] at hP1
  have hK1 := va_K.moved hvm.symm hK1
  obtain ⟨hP, hD⟩ := va_join (wr := []) (w1 := [(m0, .inr (12, [.int 0, .ref l1, .ref l2, .int 0, .int 0, .int 0, .long 0])), (l1, .inr (1, [.int 0, .ref a0, .int 0]))]) hP hD [0, 1] [] rfl rfl (by decide) (by decide) hk1 hFc hP1 hD1
  have hK := (hK.sub (tys' := []) [] rfl).app hK1
  generalize H1 = H at hP hS ⊢
  have hP : va_P (dC, dI) vwCl [(m0, .inr (12, [.int 0, .ref l1, .ref l2, .int 0, .int 0, .int 0, .long 0])), (l1, .inr (1, [.int 0, .ref a0, .int 0]))] H := hP
  have hD : va_D A [(m0, .inr (12, [.int 0, .ref l1, .ref l2, .int 0, .int 0, .int 0, .long 0])), (l1, .inr (1, [.int 0, .ref a0, .int 0]))] := hD
  have hK : va_K (dC, dI) vwCl [] s := hK
  refine W.widen (k := 0) (n := 0) (Nat.le_of_ble_eq_true rfl) (Nat.le_of_ble_eq_true rfl) ?_
  obtain rfl : r_1 = 1 := hw
  refine va_put (D := (dC, dI)) (ci := 12) (v := .int 1) (ty := .int) (C := RX10) (T := TX10) (N := 7) hx hb hts hiX10 tyX10 tyX10_ok nmX10 hown hK hP hD hS 0 rfl rfl 0 (by decide) (hts (.fieldLink RX10 19 "HaltingaleModel" "thrown" "I") (by decide +kernel)) (fun _ h9 => h9) rfl (by decide +kernel) rfl rfl (Nat.le_of_ble_eq_true rfl) dX10_tell_15 (fun H locs hP hD hS => ?_)
  have hP : va_P (dC, dI) vwCl [(m0, .inr (12, [.int 1, .ref l1, .ref l2, .int 0, .int 0, .int 0, .long 0])), (l1, .inr (1, [.int 0, .ref a0, .int 0]))] H := hP
  have hD : va_D A [(m0, .inr (12, [.int 1, .ref l1, .ref l2, .int 0, .int 0, .int 0, .long 0])), (l1, .inr (1, [.int 0, .ref a0, .int 0]))] := hD
  refine lv_aload_n hx hb dX10_tell_18 rfl (lv_at hl 0 rfl) ?_
  refine va_get (D := (dC, dI)) (ci := 12) (v := .int 1) (C := RX10) (T := TX10) (N := 7) hx hb hts hiX10 hown hK hP 0 rfl rfl 0 (by decide) (hts (.fieldLink RX10 19 "HaltingaleModel" "thrown" "I") (by decide +kernel)) (fun _ h9 => h9) rfl dX10_tell_19 ?_
  refine lv_if_le (tgt := 27) hx hb dX10_tell_22 (by decide) (fun c_2 => ?_) (fun c_2 => ?_)
  · (first | exact absurd c_2 (by decide) | exact absurd (by decide) c_2)
  refine lv_iconst (v := 0) hx hb dX10_tell_25 (by decide) ?_
  have hP9 := hP.sub (ws' := [(m0, .inr (12, [.int 1, .ref l1, .ref l2, .int 0, .int 0, .int 0, .long 0]))]) [0] rfl
  have hD9 := hD.sub (ws' := [(m0, .inr (12, [.int 1, .ref l1, .ref l2, .int 0, .int 0, .int 0, .long 0]))]) [0] (by decide) rfl
  have hK9 := hK.sub (tys' := []) [] rfl
  refine W.widen (k := 0) (n := 0) (Nat.le_of_ble_eq_true rfl) (Nat.le_of_ble_eq_true rfl) ?_
  exact W.iret (v := 0) hx hb hr (fun t ht hW => ⟨⟨0, (), rfl, rfl, ⟨by rw [ht]; exact hP9, va_K.moved hW.alike hK9, hD9⟩⟩, hS.F ht⟩) hS.2.2 dX10_tell_26

def zs_c_X10_amend : List Cond := .code yX10_amend cX10_amend 7 (some .boolean) :: (([.code yX10_refused cX10_refused 9 (some .int), .code yX10_isMachine cX10_isMachine 2 (some .boolean), .fieldLink RX10 10 "HaltingaleModel" "machines" "Ljava/util/ArrayList;", .code yJx4a65c_size_8abf5 cJx4a65c_size_8abf5 1 (some .int), .fieldLink RJx4a65c 48 "java/util/ArrayList" "size" "I", .methodLink RX10 23 yJx4a65c_size_8abf5, .instanceMethod yJx4a65c_size_8abf5, .initialized RJx4a65c, .selects RJx4a65c yJx4a65c_size_8abf5 yJx4a65c_size_8abf5, .code yX10_is cX10_is 3 (some .boolean), .methodLink RX10 27 yX10_is, .static yX10_is, .initialized RX10, .methodLink RX10 44 yX10_isMachine, .instanceMethod yX10_isMachine, .selects RX10 yX10_isMachine yX10_isMachine, .methodLink RX10 70 yX10_refused, .instanceMethod yX10_refused, .selects RX10 yX10_refused yX10_refused, .fieldLink RX10 19 "HaltingaleModel" "thrown" "I"] : List Cond) ++ wsX100 ++ wsJx4a65c0)
set_option maxHeartbeats 4000000 in
set_option maxRecDepth 100000 in
/-- amend of no machine -/
theorem c_X10_amend (l : Launch) (hnt : l.stackTraces = false) (dC : Nat → ClassId) (dI : Nat → Nat → Nat) (a0 : Nat) (m0 : Nat) (l1 : Nat) (l2 : Nat) (p0 : Int32) (p1 : Int32) (p2 : Int32) (p3 : Int32) (p4 : Int32) (p5 : Int32) (sz : Nat)  : Met l yX10_amend zs_c_X10_amend ({ frames := 3, cells := 0, slots := 0, locals := 71 }) (va_Pc [.ref m0, .int p0, .int p1, .int p2, .int p3, .int p4, .int p5] (fun U => U.heap.size = sz ∧ va_P (dC, dI) vwCl [(m0, .inr (12, [.int 0, .ref l1, .ref l2, .int 0, .int 0, .int 0, .long 0])), (l1, .inr (1, [.int 0, .ref a0, .int 0]))] U.heap ∧ va_K (dC, dI) vwCl [] U ∧ va_D (fun _ => True) [(m0, .inr (12, [.int 0, .ref l1, .ref l2, .int 0, .int 0, .int 0, .long 0])), (l1, .inr (1, [.int 0, .ref a0, .int 0]))] ∧ zB a0 (va_A [(m0, .inr (12, [.int 0, .ref l1, .ref l2, .int 0, .int 0, .int 0, .long 0])), (l1, .inr (1, [.int 0, .ref a0, .int 0]))] sz) U U.heap)) (va_Qi (fun (r : Int32) (_ : Unit) => r = 0) (fun _ t => va_P (dC, dI) vwCl [(m0, .inr (12, [.int 1, .ref l1, .ref l2, .int 0, .int 0, .int 0, .long 0]))] t.heap ∧ va_K (dC, dI) vwCl [] t ∧ va_D (va_A [(m0, .inr (12, [.int 0, .ref l1, .ref l2, .int 0, .int 0, .int 0, .long 0])), (l1, .inr (1, [.int 0, .ref a0, .int 0]))] sz) [(m0, .inr (12, [.int 1, .ref l1, .ref l2, .int 0, .int 0, .int 0, .long 0]))]) (va_A [(m0, .inr (12, [.int 0, .ref l1, .ref l2, .int 0, .int 0, .int 0, .long 0])), (l1, .inr (1, [.int 0, .ref a0, .int 0]))] sz)) 0 0 (va_A [(m0, .inr (12, [.int 0, .ref l1, .ref l2, .int 0, .int 0, .int 0, .long 0])), (l1, .inr (1, [.int 0, .ref a0, .int 0]))] sz) := by
  refine Met.ofW (cc := cX10_amend) (maxL := 7) (ret := (some .boolean)) (by decide) rfl ?_
  intro p e s m args below meth c s₁ B hml hv
  obtain ⟨rfl, hsz, hP, hK, hD0, hZ⟩ := hv
  have hx := B.exec
  have hb := B.bytes
  have hr := B.returns
  have hts := atoms_spec (ws := zs_c_X10_amend) B.pre
  have hown : s.vm.findClass RX10 = some m.cls := findClass_of_methodNamed B.named
  have hlocks := B.notSynchronized
  have hiX10 : ∀ w ∈ wsX100, w ∈ zs_c_X10_amend := by decide +kernel
  subst hsz
  have hD := hD0.self (sz := s.heap.size)
  generalize hAe : va_A [(m0, .inr (12, [.int 0, .ref l1, .ref l2, .int 0, .int 0, .int 0, .long 0])), (l1, .inr (1, [.int 0, .ref a0, .int 0]))] s.heap.size = A at hD hZ ⊢
  have hA : ∀ q : Nat, s.heap.size ≤ q → A q := fun q h => by rw [← hAe]; exact Or.inr h
  have hS : va_S A s.heap s.heap [] := va_S.rf
  have hl := lv_entry ([.ref m0, .int p0, .int p1, .int p2, .int p3, .int p4, .int p5]) (n := 7) (Nat.le_of_ble_eq_true rfl)
  rw [lg_entry_eq]
  generalize (lg_sl ([.ref m0, .int p0, .int p1, .int p2, .int p3, .int p4, .int p5]) ++ List.replicate (7 - (lg_sl ([.ref m0, .int p0, .int p1, .int p2, .int p3, .int p4, .int p5])).length) Slot.unset).toArray = ls at hl ⊢
  have hl : lv_has ls 7 [(0, .ref m0), (1, .int p0), (2, .int p1), (3, .int p2), (4, .int p3), (5, .int p4), (6, .int p5)] := hl
  refine lv_aload_n hx hb dX10_amend_0 rfl (lv_at hl 0 rfl) ?_
  refine lv_aload_n hx hb dX10_amend_1 rfl (lv_at hl 0 rfl) ?_
  refine lv_iload_n hx hb dX10_amend_2 rfl (lv_at hl 1 rfl) ?_
  refine lv_iload_n hx hb dX10_amend_3 rfl (lv_at hl 2 rfl) ?_
  refine lv_iload_n hx hb dX10_amend_4 rfl (lv_at hl 3 rfl) ?_
  refine lv_iload hx hb dX10_amend_5 (lv_at hl 4 rfl) ?_
  refine lv_iload hx hb dX10_amend_7 (lv_at hl 5 rfl) ?_
  refine lv_iload hx hb dX10_amend_9 (lv_at hl 6 rfl) ?_
  refine lv_iconst (v := 0) hx hb dX10_amend_11 (by decide) ?_
  have hPc := hP.sub (ws' := [(m0, .inr (12, [.int 0, .ref l1, .ref l2, .int 0, .int 0, .int 0, .long 0])), (l1, .inr (1, [.int 0, .ref a0, .int 0]))]) [0, 1] rfl
  have hDc := hD.sub (ws' := [(m0, .inr (12, [.int 0, .ref l1, .ref l2, .int 0, .int 0, .int 0, .long 0])), (l1, .inr (1, [.int 0, .ref a0, .int 0]))]) [0, 1] (by decide) rfl
  have hKc := hK.sub (tys' := []) [] rfl
  have hFc := va_free (wc := [(m0, .inr (12, [.int 0, .ref l1, .ref l2, .int 0, .int 0, .int 0, .long 0])), (l1, .inr (1, [.int 0, .ref a0, .int 0]))]) hD hS hA [0, 1] rfl
  have hZc := ((hZ.kept hS.2.1).narrow hFc)
  refine va_calli (va_runV (As := [.int p0, .int p1, .int p2, .int p3, .int p4, .int p5, .int 0]) (rest := [.ref m0]) ⟨hx, hb, hml, hown, hts⟩ (c_X10_refused l hnt dC dI a0 m0 l1 l2 p0 p1 p2 p3 p4 p5 0 s.heap.size ) (cwV 7 hts (goodIn_of _ (by decide +kernel)) rfl rfl rfl (by decide +kernel) ⟨Nat.le_of_ble_eq_true rfl, Nat.le_of_ble_eq_true rfl⟩) ⟨fun a U g mk q => by obtain ⟨q0, q1, qP, qK, qD, qZ⟩ := q; exact ⟨q0, q1, qP, va_K.moved (u := U) (U := U.calling g mk a) (Vm.Alike.refl U.vm) qK, qD, qZ.call⟩, va_recv hKc hPc (ci := 12) (q0 := 0) rfl rfl, fun U hU hW => ⟨rfl, by rw [hU], by rw [hU]; exact hPc, va_K.moved hW.alike hKc, hDc.weaken (fun _ _ _ _ => trivial), by rw [hU]; exact hZc.warm hW⟩⟩ rfl rfl hl.1 rfl (lv_room (Nat.le_of_ble_eq_true rfl)) dX10_amend_12 ⟨Nat.le_of_ble_eq_true rfl, Nat.le_of_ble_eq_true rfl⟩) hS (fun q _ h => hFc q h) hFc (fun r_1 u t H1 locs ht hvm hw hB hz1 hk1 hS => ?_)
  obtain ⟨hP1, hK1, hD1⟩ := hB
  rw [ht] at hP1
  have hK1 := va_K.moved hvm.symm hK1
  obtain ⟨hP, hD⟩ := va_join (wr := []) (w1 := [(m0, .inr (12, [.int 0, .ref l1, .ref l2, .int 0, .int 0, .int 0, .long 0])), (l1, .inr (1, [.int 0, .ref a0, .int 0]))]) hP hD [0, 1] [] rfl rfl (by decide) (by decide) hk1 hFc hP1 hD1
  have hK := (hK.sub (tys' := []) [] rfl).app hK1
  generalize H1 = H at hP hS ⊢
  have hP : va_P (dC, dI) vwCl [(m0, .inr (12, [.int 0, .ref l1, .ref l2, .int 0, .int 0, .int 0, .long 0])), (l1, .inr (1, [.int 0, .ref a0, .int 0]))] H := hP
  have hD : va_D A [(m0, .inr (12, [.int 0, .ref l1, .ref l2, .int 0, .int 0, .int 0, .long 0])), (l1, .inr (1, [.int 0, .ref a0, .int 0]))] := hD
  have hK : va_K (dC, dI) vwCl [] s := hK
  refine W.widen (k := 0) (n := 0) (Nat.le_of_ble_eq_true rfl) (Nat.le_of_ble_eq_true rfl) ?_
  obtain rfl : r_1 = 1 := hw
  refine va_put (D := (dC, dI)) (ci := 12) (v := .int 1) (ty := .int) (C := RX10) (T := TX10) (N := 7) hx hb hts hiX10 tyX10 tyX10_ok nmX10 hown hK hP hD hS 0 rfl rfl 0 (by decide) (hts (.fieldLink RX10 19 "HaltingaleModel" "thrown" "I") (by decide +kernel)) (fun _ h9 => h9) rfl (by decide +kernel) rfl rfl (Nat.le_of_ble_eq_true rfl) dX10_amend_15 (fun H locs hP hD hS => ?_)
  have hP : va_P (dC, dI) vwCl [(m0, .inr (12, [.int 1, .ref l1, .ref l2, .int 0, .int 0, .int 0, .long 0])), (l1, .inr (1, [.int 0, .ref a0, .int 0]))] H := hP
  have hD : va_D A [(m0, .inr (12, [.int 1, .ref l1, .ref l2, .int 0, .int 0, .int 0, .long 0])), (l1, .inr (1, [.int 0, .ref a0, .int 0]))] := hD
  refine lv_aload_n hx hb dX10_amend_18 rfl (lv_at hl 0 rfl) ?_
  refine va_get (D := (dC, dI)) (ci := 12) (v := .int 1) (C := RX10) (T := TX10) (N := 7) hx hb hts hiX10 hown hK hP 0 rfl rfl 0 (by decide) (hts (.fieldLink RX10 19 "HaltingaleModel" "thrown" "I") (by decide +kernel)) (fun _ h9 => h9) rfl dX10_amend_19 ?_
  refine lv_if_ne (tgt := 55) hx hb dX10_amend_22 (by decide) (fun c_2 => ?_) (fun c_2 => ?_)
  rotate_left
  · (first | exact absurd c_2 (by decide) | exact absurd (by decide) c_2)
  refine lv_iconst (v := 0) hx hb dX10_amend_55 (by decide) ?_
  have hP9 := hP.sub (ws' := [(m0, .inr (12, [.int 1, .ref l1, .ref l2, .int 0, .int 0, .int 0, .long 0]))]) [0] rfl
  have hD9 := hD.sub (ws' := [(m0, .inr (12, [.int 1, .ref l1, .ref l2, .int 0, .int 0, .int 0, .long 0]))]) [0] (by decide) rfl
  have hK9 := hK.sub (tys' := []) [] rfl
  refine W.widen (k := 0) (n := 0) (Nat.le_of_ble_eq_true rfl) (Nat.le_of_ble_eq_true rfl) ?_
  exact W.zret (v := 0) hx hb hr (by decide) (fun t ht hW => ⟨⟨0, (), rfl, rfl, ⟨by rw [ht]; exact hP9, va_K.moved hW.alike hK9, hD9⟩⟩, hS.F ht⟩) hS.2.2 dX10_amend_56

def zs_c_X10_child : List Cond := .code yX10_child cX10_child 8 (some .int) :: (([.fieldLink RX10 19 "HaltingaleModel" "thrown" "I", .code yX10_isMachine cX10_isMachine 2 (some .boolean), .fieldLink RX10 10 "HaltingaleModel" "machines" "Ljava/util/ArrayList;", .code yJx4a65c_size_8abf5 cJx4a65c_size_8abf5 1 (some .int), .fieldLink RJx4a65c 48 "java/util/ArrayList" "size" "I", .methodLink RX10 23 yJx4a65c_size_8abf5, .instanceMethod yJx4a65c_size_8abf5, .initialized RJx4a65c, .selects RJx4a65c yJx4a65c_size_8abf5 yJx4a65c_size_8abf5, .code yX10_is cX10_is 3 (some .boolean), .methodLink RX10 27 yX10_is, .static yX10_is, .initialized RX10, .methodLink RX10 44 yX10_isMachine, .instanceMethod yX10_isMachine, .selects RX10 yX10_isMachine yX10_isMachine, .code yX10_refuse cX10_refuse 2 (some .int), .methodLink RX10 31 yX10_refuse, .instanceMethod yX10_refuse, .selects RX10 yX10_refuse yX10_refuse] : List Cond) ++ wsX100 ++ wsJx4a65c0)
set_option maxHeartbeats 4000000 in
set_option maxRecDepth 100000 in
/-- child of no machine -/
theorem c_X10_child (l : Launch) (hnt : l.stackTraces = false) (dC : Nat → ClassId) (dI : Nat → Nat → Nat) (a0 : Nat) (m0 : Nat) (l1 : Nat) (l2 : Nat) (p0 : Int32) (p1 : Int32) (sz : Nat)  : Met l yX10_child zs_c_X10_child ({ frames := 2, cells := 0, slots := 0, locals := 43 }) (va_Pc [.ref m0, .int p0, .int p1] (fun U => U.heap.size = sz ∧ va_P (dC, dI) vwCl [(m0, .inr (12, [.int 0, .ref l1, .ref l2, .int 0, .int 0, .int 0, .long 0])), (l1, .inr (1, [.int 0, .ref a0, .int 0]))] U.heap ∧ va_K (dC, dI) vwCl [] U ∧ va_D (fun _ => True) [(m0, .inr (12, [.int 0, .ref l1, .ref l2, .int 0, .int 0, .int 0, .long 0])), (l1, .inr (1, [.int 0, .ref a0, .int 0]))] ∧ zB a0 (va_A [(m0, .inr (12, [.int 0, .ref l1, .ref l2, .int 0, .int 0, .int 0, .long 0])), (l1, .inr (1, [.int 0, .ref a0, .int 0]))] sz) U U.heap)) (va_Qi (fun (r : Int32) (_ : Unit) => r = 0) (fun _ t => va_P (dC, dI) vwCl [(m0, .inr (12, [.int 1, .ref l1, .ref l2, .int 0, .int 0, .int 0, .long 0]))] t.heap ∧ va_K (dC, dI) vwCl [] t ∧ va_D (va_A [(m0, .inr (12, [.int 0, .ref l1, .ref l2, .int 0, .int 0, .int 0, .long 0])), (l1, .inr (1, [.int 0, .ref a0, .int 0]))] sz) [(m0, .inr (12, [.int 1, .ref l1, .ref l2, .int 0, .int 0, .int 0, .long 0]))]) (va_A [(m0, .inr (12, [.int 0, .ref l1, .ref l2, .int 0, .int 0, .int 0, .long 0])), (l1, .inr (1, [.int 0, .ref a0, .int 0]))] sz)) 0 0 (va_A [(m0, .inr (12, [.int 0, .ref l1, .ref l2, .int 0, .int 0, .int 0, .long 0])), (l1, .inr (1, [.int 0, .ref a0, .int 0]))] sz) := by
  refine Met.ofW (cc := cX10_child) (maxL := 8) (ret := (some .int)) (by decide) rfl ?_
  intro p e s m args below meth c s₁ B hml hv
  obtain ⟨rfl, hsz, hP, hK, hD0, hZ⟩ := hv
  have hx := B.exec
  have hb := B.bytes
  have hr := B.returns
  have hts := atoms_spec (ws := zs_c_X10_child) B.pre
  have hown : s.vm.findClass RX10 = some m.cls := findClass_of_methodNamed B.named
  have hlocks := B.notSynchronized
  have hiX10 : ∀ w ∈ wsX100, w ∈ zs_c_X10_child := by decide +kernel
  subst hsz
  have hD := hD0.self (sz := s.heap.size)
  generalize hAe : va_A [(m0, .inr (12, [.int 0, .ref l1, .ref l2, .int 0, .int 0, .int 0, .long 0])), (l1, .inr (1, [.int 0, .ref a0, .int 0]))] s.heap.size = A at hD hZ ⊢
  have hA : ∀ q : Nat, s.heap.size ≤ q → A q := fun q h => by rw [← hAe]; exact Or.inr h
  have hS : va_S A s.heap s.heap [] := va_S.rf
  have hl := lv_entry ([.ref m0, .int p0, .int p1]) (n := 8) (Nat.le_of_ble_eq_true rfl)
  rw [lg_entry_eq]
  generalize (lg_sl ([.ref m0, .int p0, .int p1]) ++ List.replicate (8 - (lg_sl ([.ref m0, .int p0, .int p1])).length) Slot.unset).toArray = ls at hl ⊢
  have hl : lv_has ls 8 [(0, .ref m0), (1, .int p0), (2, .int p1)] := hl
  refine lv_aload_n hx hb dX10_child_0 rfl (lv_at hl 0 rfl) ?_
  refine lv_iconst (v := 0) hx hb dX10_child_1 (by decide) ?_
  refine va_put (D := (dC, dI)) (ci := 12) (v := .int 0) (ty := .int) (C := RX10) (T := TX10) (N := 7) hx hb hts hiX10 tyX10 tyX10_ok nmX10 hown hK hP hD hS 0 rfl rfl 0 (by decide) (hts (.fieldLink RX10 19 "HaltingaleModel" "thrown" "I") (by decide +kernel)) (fun _ h9 => h9) rfl (by decide +kernel) rfl rfl (Nat.le_of_ble_eq_true rfl) dX10_child_2 (fun H locs hP hD hS => ?_)
  have hP : va_P (dC, dI) vwCl [(m0, .inr (12, [.int 0, .ref l1, .ref l2, .int 0, .int 0, .int 0, .long 0])), (l1, .inr (1, [.int 0, .ref a0, .int 0]))] H := hP
  have hD : va_D A [(m0, .inr (12, [.int 0, .ref l1, .ref l2, .int 0, .int 0, .int 0, .long 0])), (l1, .inr (1, [.int 0, .ref a0, .int 0]))] := hD
  refine lv_aload_n hx hb dX10_child_5 rfl (lv_at hl 0 rfl) ?_
  refine lv_iload_n hx hb dX10_child_6 rfl (lv_at hl 1 rfl) ?_
  have hPc := hP.sub (ws' := [(m0, .inr (12, [.int 0, .ref l1, .ref l2, .int 0, .int 0, .int 0, .long 0])), (l1, .inr (1, [.int 0, .ref a0, .int 0]))]) [0, 1] rfl
  have hDc := hD.sub (ws' := [(m0, .inr (12, [.int 0, .ref l1, .ref l2, .int 0, .int 0, .int 0, .long 0])), (l1, .inr (1, [.int 0, .ref a0, .int 0]))]) [0, 1] (by decide) rfl
  have hKc := hK.sub (tys' := []) [] rfl
  have hFc := va_free (wc := [(m0, .inr (12, [.int 0, .ref l1, .ref l2, .int 0, .int 0, .int 0, .long 0])), (l1, .inr (1, [.int 0, .ref a0, .int 0]))]) hD hS hA [0, 1] rfl
  have hZc := ((hZ.kept hS.2.1).narrow hFc)
  refine va_calli (va_runV (As := [.int p0]) (rest := []) ⟨hx, hb, hml, hown, hts⟩ (c_X10_isMachine l hnt dC dI a0 m0 l1 l2 p0 H.size ) (cwV 1 hts (goodIn_of _ (by decide +kernel)) rfl rfl rfl (by decide +kernel) ⟨Nat.le_of_ble_eq_true rfl, Nat.le_of_ble_eq_true rfl⟩) ⟨fun a U g mk q => by obtain ⟨q0, q1, qP, qK, qD, qZ⟩ := q; exact ⟨q0, q1, qP, va_K.moved (u := U) (U := U.calling g mk a) (Vm.Alike.refl U.vm) qK, qD, qZ.call⟩, va_recv hKc hPc (ci := 12) (q0 := 0) rfl rfl, fun U hU hW => ⟨rfl, by rw [hU], by rw [hU]; exact hPc, va_K.moved hW.alike hKc, hDc.weaken (fun _ _ _ _ => trivial), by rw [hU]; exact hZc.warm hW⟩⟩ rfl rfl hl.1 rfl (lv_room (Nat.le_of_ble_eq_true rfl)) dX10_child_7 ⟨Nat.le_of_ble_eq_true rfl, Nat.le_of_ble_eq_true rfl⟩) hS (fun q _ h => hFc q h) hFc (fun r_1 u t H1 locs ht hvm hw hB hz1 hk1 hS => ?_)
  obtain ⟨hP1, hK1, hD1⟩ := hB
  rw [ht] at hP1
  have hK1 := va_K.moved hvm.symm hK1
  obtain ⟨hP, hD⟩ := va_join (wr := []) (w1 := [(m0, .inr (12, [.int 0, .ref l1, .ref l2, .int 0, .int 0, .int 0, .long 0])), (l1, .inr (1, [.int 0, .ref a0, .int 0]))]) hP hD [0, 1] [] rfl rfl (by decide) (by decide) hk1 hFc hP1 hD1
  have hK := (hK.sub (tys' := []) [] rfl).app hK1
  generalize H1 = H at hP hS ⊢
  have hP : va_P (dC, dI) vwCl [(m0, .inr (12, [.int 0, .ref l1, .ref l2, .int 0, .int 0, .int 0, .long 0])), (l1, .inr (1, [.int 0, .ref a0, .int 0]))] H := hP
  have hD : va_D A [(m0, .inr (12, [.int 0, .ref l1, .ref l2, .int 0, .int 0, .int 0, .long 0])), (l1, .inr (1, [.int 0, .ref a0, .int 0]))] := hD
  have hK : va_K (dC, dI) vwCl [] s := hK
  refine W.widen (k := 0) (n := 0) (Nat.le_of_ble_eq_true rfl) (Nat.le_of_ble_eq_true rfl) ?_
  obtain rfl : r_1 = 0 := hw
  refine lv_if_ne (tgt := 19) hx hb dX10_child_10 (by decide) (fun c_2 => ?_) (fun c_2 => ?_)
  · (first | exact absurd c_2 (by decide) | exact absurd (by decide) c_2)
  refine lv_aload_n hx hb dX10_child_13 rfl (lv_at hl 0 rfl) ?_
  refine lv_iconst (v := 1) hx hb dX10_child_14 (by decide) ?_
  have hPc := hP.sub (ws' := [(m0, .inr (12, [.int 0, .ref l1, .ref l2, .int 0, .int 0, .int 0, .long 0]))]) [0] rfl
  have hDc := hD.sub (ws' := [(m0, .inr (12, [.int 0, .ref l1, .ref l2, .int 0, .int 0, .int 0, .long 0]))]) [0] (by decide) rfl
  have hKc := hK.sub (tys' := []) [] rfl
  have hFc := va_free (wc := [(m0, .inr (12, [.int 0, .ref l1, .ref l2, .int 0, .int 0, .int 0, .long 0]))]) hD hS hA [0] rfl
  have hZc := ((hZ.kept hS.2.1).narrow hFc)
  refine va_calli (va_runV (As := [.int 1]) (rest := []) ⟨hx, hb, hml, hown, hts⟩ (c_X10_refuse l hnt dC dI a0 m0 l1 l2 1 H.size ) (cwV 1 hts (goodIn_of _ (by decide +kernel)) rfl rfl rfl (by decide +kernel) ⟨Nat.le_of_ble_eq_true rfl, Nat.le_of_ble_eq_true rfl⟩) ⟨fun a U g mk q => by obtain ⟨q0, q1, qP, qK, qD, qZ⟩ := q; exact ⟨q0, q1, qP, va_K.moved (u := U) (U := U.calling g mk a) (Vm.Alike.refl U.vm) qK, qD, qZ.call⟩, va_recv hKc hPc (ci := 12) (q0 := 0) rfl rfl, fun U hU hW => ⟨rfl, by rw [hU], by rw [hU]; exact hPc, va_K.moved hW.alike hKc, hDc.weaken (fun _ _ _ _ => trivial), by rw [hU]; exact hZc.warm hW⟩⟩ rfl rfl hl.1 rfl (lv_room (Nat.le_of_ble_eq_true rfl)) dX10_child_15 ⟨Nat.le_of_ble_eq_true rfl, Nat.le_of_ble_eq_true rfl⟩) hS (fun q _ h => hFc q h) hFc (fun r_3 u t H1 locs ht hvm hw hB hz1 hk1 hS => ?_)
  obtain ⟨hP1, hK1, hD1⟩ := hB
  rw [ht] at hP1
  have hK1 := va_K.moved hvm.symm hK1
  obtain ⟨hP, hD⟩ := va_join (wr := [(l1, .inr (1, [.int 0, .ref a0, .int 0]))]) (w1 := [(m0, .inr (12, [.int 1, .ref l1, .ref l2, .int 0, .int 0, .int 0, .long 0]))]) hP hD [0] [1] rfl rfl (by decide) (by decide) hk1 hFc hP1 hD1
  have hK := (hK.sub (tys' := []) [] rfl).app hK1
  generalize H1 = H at hP hS ⊢
  have hP : va_P (dC, dI) vwCl [(l1, .inr (1, [.int 0, .ref a0, .int 0])), (m0, .inr (12, [.int 1, .ref l1, .ref l2, .int 0, .int 0, .int 0, .long 0]))] H := hP
  have hD : va_D A [(l1, .inr (1, [.int 0, .ref a0, .int 0])), (m0, .inr (12, [.int 1, .ref l1, .ref l2, .int 0, .int 0, .int 0, .long 0]))] := hD
  have hK : va_K (dC, dI) vwCl [] s := hK
  refine W.widen (k := 0) (n := 0) (Nat.le_of_ble_eq_true rfl) (Nat.le_of_ble_eq_true rfl) ?_
  obtain rfl : r_3 = 0 := hw
  have hP9 := hP.sub (ws' := [(m0, .inr (12, [.int 1, .ref l1, .ref l2, .int 0, .int 0, .int 0, .long 0]))]) [1] rfl
  have hD9 := hD.sub (ws' := [(m0, .inr (12, [.int 1, .ref l1, .ref l2, .int 0, .int 0, .int 0, .long 0]))]) [1] (by decide) rfl
  have hK9 := hK.sub (tys' := []) [] rfl
  refine W.widen (k := 0) (n := 0) (Nat.le_of_ble_eq_true rfl) (Nat.le_of_ble_eq_true rfl) ?_
  exact W.iret (v := 0) hx hb hr (fun t ht hW => ⟨⟨0, (), rfl, rfl, ⟨by rw [ht]; exact hP9, va_K.moved hW.alike hK9, hD9⟩⟩, hS.F ht⟩) hS.2.2 dX10_child_18

def zs_c_X10_prove : List Cond := .code yX10_prove cX10_prove 6 (some .boolean) :: (([.code yX10_isMachine cX10_isMachine 2 (some .boolean), .fieldLink RX10 10 "HaltingaleModel" "machines" "Ljava/util/ArrayList;", .code yJx4a65c_size_8abf5 cJx4a65c_size_8abf5 1 (some .int), .fieldLink RJx4a65c 48 "java/util/ArrayList" "size" "I", .methodLink RX10 23 yJx4a65c_size_8abf5, .instanceMethod yJx4a65c_size_8abf5, .initialized RJx4a65c, .selects RJx4a65c yJx4a65c_size_8abf5 yJx4a65c_size_8abf5, .code yX10_is cX10_is 3 (some .boolean), .methodLink RX10 27 yX10_is, .static yX10_is, .initialized RX10, .methodLink RX10 44 yX10_isMachine, .instanceMethod yX10_isMachine, .selects RX10 yX10_isMachine yX10_isMachine, .fieldLink RX10 19 "HaltingaleModel" "thrown" "I"] : List Cond) ++ wsX100 ++ wsJx4a65c0)
set_option maxHeartbeats 4000000 in
set_option maxRecDepth 100000 in
/-- prove of no machine -/
theorem c_X10_prove (l : Launch) (hnt : l.stackTraces = false) (dC : Nat → ClassId) (dI : Nat → Nat → Nat) (a0 : Nat) (m0 : Nat) (l1 : Nat) (l2 : Nat) (p0 : Int32) (p1 : Int32) (p2 : Int32) (p3 : Int32) (sz : Nat)  : Met l yX10_prove zs_c_X10_prove ({ frames := 2, cells := 0, slots := 0, locals := 43 }) (va_Pc [.ref m0, .int p0, .int p1, .int p2, .int p3] (fun U => U.heap.size = sz ∧ va_P (dC, dI) vwCl [(m0, .inr (12, [.int 0, .ref l1, .ref l2, .int 0, .int 0, .int 0, .long 0])), (l1, .inr (1, [.int 0, .ref a0, .int 0]))] U.heap ∧ va_K (dC, dI) vwCl [] U ∧ va_D (fun _ => True) [(m0, .inr (12, [.int 0, .ref l1, .ref l2, .int 0, .int 0, .int 0, .long 0])), (l1, .inr (1, [.int 0, .ref a0, .int 0]))] ∧ zB a0 (va_A [(m0, .inr (12, [.int 0, .ref l1, .ref l2, .int 0, .int 0, .int 0, .long 0])), (l1, .inr (1, [.int 0, .ref a0, .int 0]))] sz) U U.heap)) (va_Qi (fun (r : Int32) (_ : Unit) => r = 0) (fun _ t => va_P (dC, dI) vwCl [(m0, .inr (12, [.int 1, .ref l1, .ref l2, .int 0, .int 0, .int 0, .long 0]))] t.heap ∧ va_K (dC, dI) vwCl [] t ∧ va_D (va_A [(m0, .inr (12, [.int 0, .ref l1, .ref l2, .int 0, .int 0, .int 0, .long 0])), (l1, .inr (1, [.int 0, .ref a0, .int 0]))] sz) [(m0, .inr (12, [.int 1, .ref l1, .ref l2, .int 0, .int 0, .int 0, .long 0]))]) (va_A [(m0, .inr (12, [.int 0, .ref l1, .ref l2, .int 0, .int 0, .int 0, .long 0])), (l1, .inr (1, [.int 0, .ref a0, .int 0]))] sz)) 0 0 (va_A [(m0, .inr (12, [.int 0, .ref l1, .ref l2, .int 0, .int 0, .int 0, .long 0])), (l1, .inr (1, [.int 0, .ref a0, .int 0]))] sz) := by
  refine Met.ofW (cc := cX10_prove) (maxL := 6) (ret := (some .boolean)) (by decide) rfl ?_
  intro p e s m args below meth c s₁ B hml hv
  obtain ⟨rfl, hsz, hP, hK, hD0, hZ⟩ := hv
  have hx := B.exec
  have hb := B.bytes
  have hr := B.returns
  have hts := atoms_spec (ws := zs_c_X10_prove) B.pre
  have hown : s.vm.findClass RX10 = some m.cls := findClass_of_methodNamed B.named
  have hlocks := B.notSynchronized
  have hiX10 : ∀ w ∈ wsX100, w ∈ zs_c_X10_prove := by decide +kernel
  subst hsz
  have hD := hD0.self (sz := s.heap.size)
  generalize hAe : va_A [(m0, .inr (12, [.int 0, .ref l1, .ref l2, .int 0, .int 0, .int 0, .long 0])), (l1, .inr (1, [.int 0, .ref a0, .int 0]))] s.heap.size = A at hD hZ ⊢
  have hA : ∀ q : Nat, s.heap.size ≤ q → A q := fun q h => by rw [← hAe]; exact Or.inr h
  have hS : va_S A s.heap s.heap [] := va_S.rf
  have hl := lv_entry ([.ref m0, .int p0, .int p1, .int p2, .int p3]) (n := 6) (Nat.le_of_ble_eq_true rfl)
  rw [lg_entry_eq]
  generalize (lg_sl ([.ref m0, .int p0, .int p1, .int p2, .int p3]) ++ List.replicate (6 - (lg_sl ([.ref m0, .int p0, .int p1, .int p2, .int p3])).length) Slot.unset).toArray = ls at hl ⊢
  have hl : lv_has ls 6 [(0, .ref m0), (1, .int p0), (2, .int p1), (3, .int p2), (4, .int p3)] := hl
  refine lv_aload_n hx hb dX10_prove_0 rfl (lv_at hl 0 rfl) ?_
  refine lv_aload_n hx hb dX10_prove_1 rfl (lv_at hl 0 rfl) ?_
  refine lv_iload_n hx hb dX10_prove_2 rfl (lv_at hl 1 rfl) ?_
  have hPc := hP.sub (ws' := [(m0, .inr (12, [.int 0, .ref l1, .ref l2, .int 0, .int 0, .int 0, .long 0])), (l1, .inr (1, [.int 0, .ref a0, .int 0]))]) [0, 1] rfl
  have hDc := hD.sub (ws' := [(m0, .inr (12, [.int 0, .ref l1, .ref l2, .int 0, .int 0, .int 0, .long 0])), (l1, .inr (1, [.int 0, .ref a0, .int 0]))]) [0, 1] (by decide) rfl
  have hKc := hK.sub (tys' := []) [] rfl
  have hFc := va_free (wc := [(m0, .inr (12, [.int 0, .ref l1, .ref l2, .int 0, .int 0, .int 0, .long 0])), (l1, .inr (1, [.int 0, .ref a0, .int 0]))]) hD hS hA [0, 1] rfl
  have hZc := ((hZ.kept hS.2.1).narrow hFc)
  refine va_calli (va_runV (As := [.int p0]) (rest := [.ref m0]) ⟨hx, hb, hml, hown, hts⟩ (c_X10_isMachine l hnt dC dI a0 m0 l1 l2 p0 s.heap.size ) (cwV 1 hts (goodIn_of _ (by decide +kernel)) rfl rfl rfl (by decide +kernel) ⟨Nat.le_of_ble_eq_true rfl, Nat.le_of_ble_eq_true rfl⟩) ⟨fun a U g mk q => by obtain ⟨q0, q1, qP, qK, qD, qZ⟩ := q; exact ⟨q0, q1, qP, va_K.moved (u := U) (U := U.calling g mk a) (Vm.Alike.refl U.vm) qK, qD, qZ.call⟩, va_recv hKc hPc (ci := 12) (q0 := 0) rfl rfl, fun U hU hW => ⟨rfl, by rw [hU], by rw [hU]; exact hPc, va_K.moved hW.alike hKc, hDc.weaken (fun _ _ _ _ => trivial), by rw [hU]; exact hZc.warm hW⟩⟩ rfl rfl hl.1 rfl (lv_room (Nat.le_of_ble_eq_true rfl)) dX10_prove_3 ⟨Nat.le_of_ble_eq_true rfl, Nat.le_of_ble_eq_true rfl⟩) hS (fun q _ h => hFc q h) hFc (fun r_1 u t H1 locs ht hvm hw hB hz1 hk1 hS => ?_)
  obtain ⟨hP1, hK1, hD1⟩ := hB
  rw [ht] at hP1
  have hK1 := va_K.moved hvm.symm hK1
  obtain ⟨hP, hD⟩ := va_join (wr := []) (w1 := [(m0, .inr (12, [.int 0, .ref l1, .ref l2, .int 0, .int 0, .int 0, .long 0])), (l1, .inr (1, [.int 0, .ref a0, .int 0]))]) hP hD [0, 1] [] rfl rfl (by decide) (by decide) hk1 hFc hP1 hD1
  have hK := (hK.sub (tys' := []) [] rfl).app hK1
  generalize H1 = H at hP hS ⊢
  have hP : va_P (dC, dI) vwCl [(m0, .inr (12, [.int 0, .ref l1, .ref l2, .int 0, .int 0, .int 0, .long 0])), (l1, .inr (1, [.int 0, .ref a0, .int 0]))] H := hP
  have hD : va_D A [(m0, .inr (12, [.int 0, .ref l1, .ref l2, .int 0, .int 0, .int 0, .long 0])), (l1, .inr (1, [.int 0, .ref a0, .int 0]))] := hD
  have hK : va_K (dC, dI) vwCl [] s := hK
  refine W.widen (k := 0) (n := 0) (Nat.le_of_ble_eq_true rfl) (Nat.le_of_ble_eq_true rfl) ?_
  obtain rfl : r_1 = 0 := hw
  refine lv_if_ne (tgt := 13) hx hb dX10_prove_6 (by decide) (fun c_2 => ?_) (fun c_2 => ?_)
  · (first | exact absurd c_2 (by decide) | exact absurd (by decide) c_2)
  refine lv_iconst (v := 1) hx hb dX10_prove_9 (by decide) ?_
  refine lv_goto (tgt := 50) hx hb dX10_prove_10 (by decide) ?_
  refine va_put (D := (dC, dI)) (ci := 12) (v := .int 1) (ty := .int) (C := RX10) (T := TX10) (N := 7) hx hb hts hiX10 tyX10 tyX10_ok nmX10 hown hK hP hD hS 0 rfl rfl 0 (by decide) (hts (.fieldLink RX10 19 "HaltingaleModel" "thrown" "I") (by decide +kernel)) (fun _ h9 => h9) rfl (by decide +kernel) rfl rfl (Nat.le_of_ble_eq_true rfl) dX10_prove_50 (fun H locs hP hD hS => ?_)
  have hP : va_P (dC, dI) vwCl [(m0, .inr (12, [.int 1, .ref l1, .ref l2, .int 0, .int 0, .int 0, .long 0])), (l1, .inr (1, [.int 0, .ref a0, .int 0]))] H := hP
  have hD : va_D A [(m0, .inr (12, [.int 1, .ref l1, .ref l2, .int 0, .int 0, .int 0, .long 0])), (l1, .inr (1, [.int 0, .ref a0, .int 0]))] := hD
  refine lv_aload_n hx hb dX10_prove_53 rfl (lv_at hl 0 rfl) ?_
  refine va_get (D := (dC, dI)) (ci := 12) (v := .int 1) (C := RX10) (T := TX10) (N := 7) hx hb hts hiX10 hown hK hP 0 rfl rfl 0 (by decide) (hts (.fieldLink RX10 19 "HaltingaleModel" "thrown" "I") (by decide +kernel)) (fun _ h9 => h9) rfl dX10_prove_54 ?_
  refine lv_if_le (tgt := 62) hx hb dX10_prove_57 (by decide) (fun c_3 => ?_) (fun c_3 => ?_)
  · (first | exact absurd c_3 (by decide) | exact absurd (by decide) c_3)
  refine lv_iconst (v := 0) hx hb dX10_prove_60 (by decide) ?_
  have hP9 := hP.sub (ws' := [(m0, .inr (12, [.int 1, .ref l1, .ref l2, .int 0, .int 0, .int 0, .long 0]))]) [0] rfl
  have hD9 := hD.sub (ws' := [(m0, .inr (12, [.int 1, .ref l1, .ref l2, .int 0, .int 0, .int 0, .long 0]))]) [0] (by decide) rfl
  have hK9 := hK.sub (tys' := []) [] rfl
  refine W.widen (k := 0) (n := 0) (Nat.le_of_ble_eq_true rfl) (Nat.le_of_ble_eq_true rfl) ?_
  exact W.zret (v := 0) hx hb hr (by decide) (fun t ht hW => ⟨⟨0, (), rfl, rfl, ⟨by rw [ht]; exact hP9, va_K.moved hW.alike hK9, hD9⟩⟩, hS.F ht⟩) hS.2.2 dX10_prove_61

def zs_c_X10_cell : List Cond := .code yX10_cell cX10_cell 5 (some .int) :: (([.fieldLink RX10 19 "HaltingaleModel" "thrown" "I", .code yX10_isMachine cX10_isMachine 2 (some .boolean), .fieldLink RX10 10 "HaltingaleModel" "machines" "Ljava/util/ArrayList;", .code yJx4a65c_size_8abf5 cJx4a65c_size_8abf5 1 (some .int), .fieldLink RJx4a65c 48 "java/util/ArrayList" "size" "I", .methodLink RX10 23 yJx4a65c_size_8abf5, .instanceMethod yJx4a65c_size_8abf5, .initialized RJx4a65c, .selects RJx4a65c yJx4a65c_size_8abf5 yJx4a65c_size_8abf5, .code yX10_is cX10_is 3 (some .boolean), .methodLink RX10 27 yX10_is, .static yX10_is, .initialized RX10, .methodLink RX10 44 yX10_isMachine, .instanceMethod yX10_isMachine, .selects RX10 yX10_isMachine yX10_isMachine, .code yX10_refuse cX10_refuse 2 (some .int), .methodLink RX10 31 yX10_refuse, .instanceMethod yX10_refuse, .selects RX10 yX10_refuse yX10_refuse] : List Cond) ++ wsX100 ++ wsJx4a65c0)
set_option maxHeartbeats 4000000 in
set_option maxRecDepth 100000 in
/-- cell of no machine -/
theorem c_X10_cell (l : Launch) (hnt : l.stackTraces = false) (dC : Nat → ClassId) (dI : Nat → Nat → Nat) (a0 : Nat) (m0 : Nat) (l1 : Nat) (l2 : Nat) (p0 : Int32) (p1 : Int32) (p2 : Int32) (p3 : Int32) (sz : Nat)  : Met l yX10_cell zs_c_X10_cell ({ frames := 2, cells := 0, slots := 0, locals := 43 }) (va_Pc [.ref m0, .int p0, .int p1, .int p2, .int p3] (fun U => U.heap.size = sz ∧ va_P (dC, dI) vwCl [(m0, .inr (12, [.int 0, .ref l1, .ref l2, .int 0, .int 0, .int 0, .long 0])), (l1, .inr (1, [.int 0, .ref a0, .int 0]))] U.heap ∧ va_K (dC, dI) vwCl [] U ∧ va_D (fun _ => True) [(m0, .inr (12, [.int 0, .ref l1, .ref l2, .int 0, .int 0, .int 0, .long 0])), (l1, .inr (1, [.int 0, .ref a0, .int 0]))] ∧ zB a0 (va_A [(m0, .inr (12, [.int 0, .ref l1, .ref l2, .int 0, .int 0, .int 0, .long 0])), (l1, .inr (1, [.int 0, .ref a0, .int 0]))] sz) U U.heap)) (va_Qi (fun (r : Int32) (_ : Unit) => r = 0) (fun _ t => va_P (dC, dI) vwCl [(m0, .inr (12, [.int 1, .ref l1, .ref l2, .int 0, .int 0, .int 0, .long 0]))] t.heap ∧ va_K (dC, dI) vwCl [] t ∧ va_D (va_A [(m0, .inr (12, [.int 0, .ref l1, .ref l2, .int 0, .int 0, .int 0, .long 0])), (l1, .inr (1, [.int 0, .ref a0, .int 0]))] sz) [(m0, .inr (12, [.int 1, .ref l1, .ref l2, .int 0, .int 0, .int 0, .long 0]))]) (va_A [(m0, .inr (12, [.int 0, .ref l1, .ref l2, .int 0, .int 0, .int 0, .long 0])), (l1, .inr (1, [.int 0, .ref a0, .int 0]))] sz)) 0 0 (va_A [(m0, .inr (12, [.int 0, .ref l1, .ref l2, .int 0, .int 0, .int 0, .long 0])), (l1, .inr (1, [.int 0, .ref a0, .int 0]))] sz) := by
  refine Met.ofW (cc := cX10_cell) (maxL := 5) (ret := (some .int)) (by decide) rfl ?_
  intro p e s m args below meth c s₁ B hml hv
  obtain ⟨rfl, hsz, hP, hK, hD0, hZ⟩ := hv
  have hx := B.exec
  have hb := B.bytes
  have hr := B.returns
  have hts := atoms_spec (ws := zs_c_X10_cell) B.pre
  have hown : s.vm.findClass RX10 = some m.cls := findClass_of_methodNamed B.named
  have hlocks := B.notSynchronized
  have hiX10 : ∀ w ∈ wsX100, w ∈ zs_c_X10_cell := by decide +kernel
  subst hsz
  have hD := hD0.self (sz := s.heap.size)
  generalize hAe : va_A [(m0, .inr (12, [.int 0, .ref l1, .ref l2, .int 0, .int 0, .int 0, .long 0])), (l1, .inr (1, [.int 0, .ref a0, .int 0]))] s.heap.size = A at hD hZ ⊢
  have hA : ∀ q : Nat, s.heap.size ≤ q → A q := fun q h => by rw [← hAe]; exact Or.inr h
  have hS : va_S A s.heap s.heap [] := va_S.rf
  have hl := lv_entry ([.ref m0, .int p0, .int p1, .int p2, .int p3]) (n := 5) (Nat.le_of_ble_eq_true rfl)
  rw [lg_entry_eq]
  generalize (lg_sl ([.ref m0, .int p0, .int p1, .int p2, .int p3]) ++ List.replicate (5 - (lg_sl ([.ref m0, .int p0, .int p1, .int p2, .int p3])).length) Slot.unset).toArray = ls at hl ⊢
  have hl : lv_has ls 5 [(0, .ref m0), (1, .int p0), (2, .int p1), (3, .int p2), (4, .int p3)] := hl
  refine lv_aload_n hx hb dX10_cell_0 rfl (lv_at hl 0 rfl) ?_
  refine lv_iconst (v := 0) hx hb dX10_cell_1 (by decide) ?_
  refine va_put (D := (dC, dI)) (ci := 12) (v := .int 0) (ty := .int) (C := RX10) (T := TX10) (N := 7) hx hb hts hiX10 tyX10 tyX10_ok nmX10 hown hK hP hD hS 0 rfl rfl 0 (by decide) (hts (.fieldLink RX10 19 "HaltingaleModel" "thrown" "I") (by decide +kernel)) (fun _ h9 => h9) rfl (by decide +kernel) rfl rfl (Nat.le_of_ble_eq_true rfl) dX10_cell_2 (fun H locs hP hD hS => ?_)
  have hP : va_P (dC, dI) vwCl [(m0, .inr (12, [.int 0, .ref l1, .ref l2, .int 0, .int 0, .int 0, .long 0])), (l1, .inr (1, [.int 0, .ref a0, .int 0]))] H := hP
  have hD : va_D A [(m0, .inr (12, [.int 0, .ref l1, .ref l2, .int 0, .int 0, .int 0, .long 0])), (l1, .inr (1, [.int 0, .ref a0, .int 0]))] := hD
  refine lv_aload_n hx hb dX10_cell_5 rfl (lv_at hl 0 rfl) ?_
  refine lv_iload_n hx hb dX10_cell_6 rfl (lv_at hl 1 rfl) ?_
  have hPc := hP.sub (ws' := [(m0, .inr (12, [.int 0, .ref l1, .ref l2, .int 0, .int 0, .int 0, .long 0])), (l1, .inr (1, [.int 0, .ref a0, .int 0]))]) [0, 1] rfl
  have hDc := hD.sub (ws' := [(m0, .inr (12, [.int 0, .ref l1, .ref l2, .int 0, .int 0, .int 0, .long 0])), (l1, .inr (1, [.int 0, .ref a0, .int 0]))]) [0, 1] (by decide) rfl
  have hKc := hK.sub (tys' := []) [] rfl
  have hFc := va_free (wc := [(m0, .inr (12, [.int 0, .ref l1, .ref l2, .int 0, .int 0, .int 0, .long 0])), (l1, .inr (1, [.int 0, .ref a0, .int 0]))]) hD hS hA [0, 1] rfl
  have hZc := ((hZ.kept hS.2.1).narrow hFc)
  refine va_calli (va_runV (As := [.int p0]) (rest := []) ⟨hx, hb, hml, hown, hts⟩ (c_X10_isMachine l hnt dC dI a0 m0 l1 l2 p0 H.size ) (cwV 1 hts (goodIn_of _ (by decide +kernel)) rfl rfl rfl (by decide +kernel) ⟨Nat.le_of_ble_eq_true rfl, Nat.le_of_ble_eq_true rfl⟩) ⟨fun a U g mk q => by obtain ⟨q0, q1, qP, qK, qD, qZ⟩ := q; exact ⟨q0, q1, qP, va_K.moved (u := U) (U := U.calling g mk a) (Vm.Alike.refl U.vm) qK, qD, qZ.call⟩, va_recv hKc hPc (ci := 12) (q0 := 0) rfl rfl, fun U hU hW => ⟨rfl, by rw [hU], by rw [hU]; exact hPc, va_K.moved hW.alike hKc, hDc.weaken (fun _ _ _ _ => trivial), by rw [hU]; exact hZc.warm hW⟩⟩ rfl rfl hl.1 rfl (lv_room (Nat.le_of_ble_eq_true rfl)) dX10_cell_7 ⟨Nat.le_of_ble_eq_true rfl, Nat.le_of_ble_eq_true rfl⟩) hS (fun q _ h => hFc q h) hFc (fun r_1 u t H1 locs ht hvm hw hB hz1 hk1 hS => ?_)
  obtain ⟨hP1, hK1, hD1⟩ := hB
  rw [ht] at hP1
  have hK1 := va_K.moved hvm.symm hK1
  obtain ⟨hP, hD⟩ := va_join (wr := []) (w1 := [(m0, .inr (12, [.int 0, .ref l1, .ref l2, .int 0, .int 0, .int 0, .long 0])), (l1, .inr (1, [.int 0, .ref a0, .int 0]))]) hP hD [0, 1] [] rfl rfl (by decide) (by decide) hk1 hFc hP1 hD1
  have hK := (hK.sub (tys' := []) [] rfl).app hK1
  generalize H1 = H at hP hS ⊢
  have hP : va_P (dC, dI) vwCl [(m0, .inr (12, [.int 0, .ref l1, .ref l2, .int 0, .int 0, .int 0, .long 0])), (l1, .inr (1, [.int 0, .ref a0, .int 0]))] H := hP
  have hD : va_D A [(m0, .inr (12, [.int 0, .ref l1, .ref l2, .int 0, .int 0, .int 0, .long 0])), (l1, .inr (1, [.int 0, .ref a0, .int 0]))] := hD
  have hK : va_K (dC, dI) vwCl [] s := hK
  refine W.widen (k := 0) (n := 0) (Nat.le_of_ble_eq_true rfl) (Nat.le_of_ble_eq_true rfl) ?_
  obtain rfl : r_1 = 0 := hw
  refine lv_if_eq (tgt := 46) hx hb dX10_cell_10 (by decide) (fun c_2 => ?_) (fun c_2 => ?_)
  rotate_left
  · (first | exact absurd c_2 (by decide) | exact absurd (by decide) c_2)
  refine lv_aload_n hx hb dX10_cell_46 rfl (lv_at hl 0 rfl) ?_
  refine lv_iconst (v := 1) hx hb dX10_cell_47 (by decide) ?_
  have hPc := hP.sub (ws' := [(m0, .inr (12, [.int 0, .ref l1, .ref l2, .int 0, .int 0, .int 0, .long 0]))]) [0] rfl
  have hDc := hD.sub (ws' := [(m0, .inr (12, [.int 0, .ref l1, .ref l2, .int 0, .int 0, .int 0, .long 0]))]) [0] (by decide) rfl
  have hKc := hK.sub (tys' := []) [] rfl
  have hFc := va_free (wc := [(m0, .inr (12, [.int 0, .ref l1, .ref l2, .int 0, .int 0, .int 0, .long 0]))]) hD hS hA [0] rfl
  have hZc := ((hZ.kept hS.2.1).narrow hFc)
  refine va_calli (va_runV (As := [.int 1]) (rest := []) ⟨hx, hb, hml, hown, hts⟩ (c_X10_refuse l hnt dC dI a0 m0 l1 l2 1 H.size ) (cwV 1 hts (goodIn_of _ (by decide +kernel)) rfl rfl rfl (by decide +kernel) ⟨Nat.le_of_ble_eq_true rfl, Nat.le_of_ble_eq_true rfl⟩) ⟨fun a U g mk q => by obtain ⟨q0, q1, qP, qK, qD, qZ⟩ := q; exact ⟨q0, q1, qP, va_K.moved (u := U) (U := U.calling g mk a) (Vm.Alike.refl U.vm) qK, qD, qZ.call⟩, va_recv hKc hPc (ci := 12) (q0 := 0) rfl rfl, fun U hU hW => ⟨rfl, by rw [hU], by rw [hU]; exact hPc, va_K.moved hW.alike hKc, hDc.weaken (fun _ _ _ _ => trivial), by rw [hU]; exact hZc.warm hW⟩⟩ rfl rfl hl.1 rfl (lv_room (Nat.le_of_ble_eq_true rfl)) dX10_cell_48 ⟨Nat.le_of_ble_eq_true rfl, Nat.le_of_ble_eq_true rfl⟩) hS (fun q _ h => hFc q h) hFc (fun r_3 u t H1 locs ht hvm hw hB hz1 hk1 hS => ?_)
  obtain ⟨hP1, hK1, hD1⟩ := hB
  rw [ht] at hP1
  have hK1 := va_K.moved hvm.symm hK1
  obtain ⟨hP, hD⟩ := va_join (wr := [(l1, .inr (1, [.int 0, .ref a0, .int 0]))]) (w1 := [(m0, .inr (12, [.int 1, .ref l1, .ref l2, .int 0, .int 0, .int 0, .long 0]))]) hP hD [0] [1] rfl rfl (by decide) (by decide) hk1 hFc hP1 hD1
  have hK := (hK.sub (tys' := []) [] rfl).app hK1
  generalize H1 = H at hP hS ⊢
  have hP : va_P (dC, dI) vwCl [(l1, .inr (1, [.int 0, .ref a0, .int 0])), (m0, .inr (12, [.int 1, .ref l1, .ref l2, .int 0, .int 0, .int 0, .long 0]))] H := hP
  have hD : va_D A [(l1, .inr (1, [.int 0, .ref a0, .int 0])), (m0, .inr (12, [.int 1, .ref l1, .ref l2, .int 0, .int 0, .int 0, .long 0]))] := hD
  have hK : va_K (dC, dI) vwCl [] s := hK
  refine W.widen (k := 0) (n := 0) (Nat.le_of_ble_eq_true rfl) (Nat.le_of_ble_eq_true rfl) ?_
  obtain rfl : r_3 = 0 := hw
  have hP9 := hP.sub (ws' := [(m0, .inr (12, [.int 1, .ref l1, .ref l2, .int 0, .int 0, .int 0, .long 0]))]) [1] rfl
  have hD9 := hD.sub (ws' := [(m0, .inr (12, [.int 1, .ref l1, .ref l2, .int 0, .int 0, .int 0, .long 0]))]) [1] (by decide) rfl
  have hK9 := hK.sub (tys' := []) [] rfl
  refine W.widen (k := 0) (n := 0) (Nat.le_of_ble_eq_true rfl) (Nat.le_of_ble_eq_true rfl) ?_
  exact W.iret (v := 0) hx hb hr (fun t ht hW => ⟨⟨0, (), rfl, rfl, ⟨by rw [ht]; exact hP9, va_K.moved hW.alike hK9, hD9⟩⟩, hS.F ht⟩) hS.2.2 dX10_cell_51

def zs_c_X10_ofMachine : List Cond := .code yX10_ofMachine cX10_ofMachine 3 (some .int) :: (([.fieldLink RX10 19 "HaltingaleModel" "thrown" "I", .code yX10_isMachine cX10_isMachine 2 (some .boolean), .fieldLink RX10 10 "HaltingaleModel" "machines" "Ljava/util/ArrayList;", .code yJx4a65c_size_8abf5 cJx4a65c_size_8abf5 1 (some .int), .fieldLink RJx4a65c 48 "java/util/ArrayList" "size" "I", .methodLink RX10 23 yJx4a65c_size_8abf5, .instanceMethod yJx4a65c_size_8abf5, .initialized RJx4a65c, .selects RJx4a65c yJx4a65c_size_8abf5 yJx4a65c_size_8abf5, .code yX10_is cX10_is 3 (some .boolean), .methodLink RX10 27 yX10_is, .static yX10_is, .initialized RX10, .methodLink RX10 44 yX10_isMachine, .instanceMethod yX10_isMachine, .selects RX10 yX10_isMachine yX10_isMachine, .code yX10_refuse cX10_refuse 2 (some .int), .methodLink RX10 31 yX10_refuse, .instanceMethod yX10_refuse, .selects RX10 yX10_refuse yX10_refuse] : List Cond) ++ wsX100 ++ wsJx4a65c0)
set_option maxHeartbeats 4000000 in
set_option maxRecDepth 100000 in
/-- ofMachine of no machine -/
theorem c_X10_ofMachine (l : Launch) (hnt : l.stackTraces = false) (dC : Nat → ClassId) (dI : Nat → Nat → Nat) (a0 : Nat) (m0 : Nat) (l1 : Nat) (l2 : Nat) (p0 : Int32) (p1 : Int32) (sz : Nat)  : Met l yX10_ofMachine zs_c_X10_ofMachine ({ frames := 2, cells := 0, slots := 0, locals := 43 }) (va_Pc [.ref m0, .int p0, .int p1] (fun U => U.heap.size = sz ∧ va_P (dC, dI) vwCl [(m0, .inr (12, [.int 0, .ref l1, .ref l2, .int 0, .int 0, .int 0, .long 0])), (l1, .inr (1, [.int 0, .ref a0, .int 0]))] U.heap ∧ va_K (dC, dI) vwCl [] U ∧ va_D (fun _ => True) [(m0, .inr (12, [.int 0, .ref l1, .ref l2, .int 0, .int 0, .int 0, .long 0])), (l1, .inr (1, [.int 0, .ref a0, .int 0]))] ∧ zB a0 (va_A [(m0, .inr (12, [.int 0, .ref l1, .ref l2, .int 0, .int 0, .int 0, .long 0])), (l1, .inr (1, [.int 0, .ref a0, .int 0]))] sz) U U.heap)) (va_Qi (fun (r : Int32) (_ : Unit) => r = 0) (fun _ t => va_P (dC, dI) vwCl [(m0, .inr (12, [.int 1, .ref l1, .ref l2, .int 0, .int 0, .int 0, .long 0]))] t.heap ∧ va_K (dC, dI) vwCl [] t ∧ va_D (va_A [(m0, .inr (12, [.int 0, .ref l1, .ref l2, .int 0, .int 0, .int 0, .long 0])), (l1, .inr (1, [.int 0, .ref a0, .int 0]))] sz) [(m0, .inr (12, [.int 1, .ref l1, .ref l2, .int 0, .int 0, .int 0, .long 0]))]) (va_A [(m0, .inr (12, [.int 0, .ref l1, .ref l2, .int 0, .int 0, .int 0, .long 0])), (l1, .inr (1, [.int 0, .ref a0, .int 0]))] sz)) 0 0 (va_A [(m0, .inr (12, [.int 0, .ref l1, .ref l2, .int 0, .int 0, .int 0, .long 0])), (l1, .inr (1, [.int 0, .ref a0, .int 0]))] sz) := by
  refine Met.ofW (cc := cX10_ofMachine) (maxL := 3) (ret := (some .int)) (by decide) rfl ?_
  intro p e s m args below meth c s₁ B hml hv
  obtain ⟨rfl, hsz, hP, hK, hD0, hZ⟩ := hv
  have hx := B.exec
  have hb := B.bytes
  have hr := B.returns
  have hts := atoms_spec (ws := zs_c_X10_ofMachine) B.pre
  have hown : s.vm.findClass RX10 = some m.cls := findClass_of_methodNamed B.named
  have hlocks := B.notSynchronized
  have hiX10 : ∀ w ∈ wsX100, w ∈ zs_c_X10_ofMachine := by decide +kernel
  subst hsz
  have hD := hD0.self (sz := s.heap.size)
  generalize hAe : va_A [(m0, .inr (12, [.int 0, .ref l1, .ref l2, .int 0, .int 0, .int 0, .long 0])), (l1, .inr (1, [.int 0, .ref a0, .int 0]))] s.heap.size = A at hD hZ ⊢
  have hA : ∀ q : Nat, s.heap.size ≤ q → A q := fun q h => by rw [← hAe]; exact Or.inr h
  have hS : va_S A s.heap s.heap [] := va_S.rf
  have hl := lv_entry ([.ref m0, .int p0, .int p1]) (n := 3) (Nat.le_of_ble_eq_true rfl)
  rw [lg_entry_eq]
  generalize (lg_sl ([.ref m0, .int p0, .int p1]) ++ List.replicate (3 - (lg_sl ([.ref m0, .int p0, .int p1])).length) Slot.unset).toArray = ls at hl ⊢
  have hl : lv_has ls 3 [(0, .ref m0), (1, .int p0), (2, .int p1)] := hl
  refine lv_aload_n hx hb dX10_ofMachine_0 rfl (lv_at hl 0 rfl) ?_
  refine lv_iconst (v := 0) hx hb dX10_ofMachine_1 (by decide) ?_
  refine va_put (D := (dC, dI)) (ci := 12) (v := .int 0) (ty := .int) (C := RX10) (T := TX10) (N := 7) hx hb hts hiX10 tyX10 tyX10_ok nmX10 hown hK hP hD hS 0 rfl rfl 0 (by decide) (hts (.fieldLink RX10 19 "HaltingaleModel" "thrown" "I") (by decide +kernel)) (fun _ h9 => h9) rfl (by decide +kernel) rfl rfl (Nat.le_of_ble_eq_true rfl) dX10_ofMachine_2 (fun H locs hP hD hS => ?_)
  have hP : va_P (dC, dI) vwCl [(m0, .inr (12, [.int 0, .ref l1, .ref l2, .int 0, .int 0, .int 0, .long 0])), (l1, .inr (1, [.int 0, .ref a0, .int 0]))] H := hP
  have hD : va_D A [(m0, .inr (12, [.int 0, .ref l1, .ref l2, .int 0, .int 0, .int 0, .long 0])), (l1, .inr (1, [.int 0, .ref a0, .int 0]))] := hD
  refine lv_aload_n hx hb dX10_ofMachine_5 rfl (lv_at hl 0 rfl) ?_
  refine lv_iload_n hx hb dX10_ofMachine_6 rfl (lv_at hl 1 rfl) ?_
  have hPc := hP.sub (ws' := [(m0, .inr (12, [.int 0, .ref l1, .ref l2, .int 0, .int 0, .int 0, .long 0])), (l1, .inr (1, [.int 0, .ref a0, .int 0]))]) [0, 1] rfl
  have hDc := hD.sub (ws' := [(m0, .inr (12, [.int 0, .ref l1, .ref l2, .int 0, .int 0, .int 0, .long 0])), (l1, .inr (1, [.int 0, .ref a0, .int 0]))]) [0, 1] (by decide) rfl
  have hKc := hK.sub (tys' := []) [] rfl
  have hFc := va_free (wc := [(m0, .inr (12, [.int 0, .ref l1, .ref l2, .int 0, .int 0, .int 0, .long 0])), (l1, .inr (1, [.int 0, .ref a0, .int 0]))]) hD hS hA [0, 1] rfl
  have hZc := ((hZ.kept hS.2.1).narrow hFc)
  refine va_calli (va_runV (As := [.int p0]) (rest := []) ⟨hx, hb, hml, hown, hts⟩ (c_X10_isMachine l hnt dC dI a0 m0 l1 l2 p0 H.size ) (cwV 1 hts (goodIn_of _ (by decide +kernel)) rfl rfl rfl (by decide +kernel) ⟨Nat.le_of_ble_eq_true rfl, Nat.le_of_ble_eq_true rfl⟩) ⟨fun a U g mk q => by obtain ⟨q0, q1, qP, qK, qD, qZ⟩ := q; exact ⟨q0, q1, qP, va_K.moved (u := U) (U := U.calling g mk a) (Vm.Alike.refl U.vm) qK, qD, qZ.call⟩, va_recv hKc hPc (ci := 12) (q0 := 0) rfl rfl, fun U hU hW => ⟨rfl, by rw [hU], by rw [hU]; exact hPc, va_K.moved hW.alike hKc, hDc.weaken (fun _ _ _ _ => trivial), by rw [hU]; exact hZc.warm hW⟩⟩ rfl rfl hl.1 rfl (lv_room (Nat.le_of_ble_eq_true rfl)) dX10_ofMachine_7 ⟨Nat.le_of_ble_eq_true rfl, Nat.le_of_ble_eq_true rfl⟩) hS (fun q _ h => hFc q h) hFc (fun r_1 u t H1 locs ht hvm hw hB hz1 hk1 hS => ?_)
  obtain ⟨hP1, hK1, hD1⟩ := hB
  rw [ht] at hP1
  have hK1 := va_K.moved hvm.symm hK1
  obtain ⟨hP, hD⟩ := va_join (wr := []) (w1 := [(m0, .inr (12, [.int 0, .ref l1, .ref l2, .int 0, .int 0, .int 0, .long 0])), (l1, .inr (1, [.int 0, .ref a0, .int 0]))]) hP hD [0, 1] [] rfl rfl (by decide) (by decide) hk1 hFc hP1 hD1
  have hK := (hK.sub (tys' := []) [] rfl).app hK1
  generalize H1 = H at hP hS ⊢
  have hP : va_P (dC, dI) vwCl [(m0, .inr (12, [.int 0, .ref l1, .ref l2, .int 0, .int 0, .int 0, .long 0])), (l1, .inr (1, [.int 0, .ref a0, .int 0]))] H := hP
  have hD : va_D A [(m0, .inr (12, [.int 0, .ref l1, .ref l2, .int 0, .int 0, .int 0, .long 0])), (l1, .inr (1, [.int 0, .ref a0, .int 0]))] := hD
  have hK : va_K (dC, dI) vwCl [] s := hK
  refine W.widen (k := 0) (n := 0) (Nat.le_of_ble_eq_true rfl) (Nat.le_of_ble_eq_true rfl) ?_
  obtain rfl : r_1 = 0 := hw
  refine lv_if_ne (tgt := 19) hx hb dX10_ofMachine_10 (by decide) (fun c_2 => ?_) (fun c_2 => ?_)
  · (first | exact absurd c_2 (by decide) | exact absurd (by decide) c_2)
  refine lv_aload_n hx hb dX10_ofMachine_13 rfl (lv_at hl 0 rfl) ?_
  refine lv_iconst (v := 1) hx hb dX10_ofMachine_14 (by decide) ?_
  have hPc := hP.sub (ws' := [(m0, .inr (12, [.int 0, .ref l1, .ref l2, .int 0, .int 0, .int 0, .long 0]))]) [0] rfl
  have hDc := hD.sub (ws' := [(m0, .inr (12, [.int 0, .ref l1, .ref l2, .int 0, .int 0, .int 0, .long 0]))]) [0] (by decide) rfl
  have hKc := hK.sub (tys' := []) [] rfl
  have hFc := va_free (wc := [(m0, .inr (12, [.int 0, .ref l1, .ref l2, .int 0, .int 0, .int 0, .long 0]))]) hD hS hA [0] rfl
  have hZc := ((hZ.kept hS.2.1).narrow hFc)
  refine va_calli (va_runV (As := [.int 1]) (rest := []) ⟨hx, hb, hml, hown, hts⟩ (c_X10_refuse l hnt dC dI a0 m0 l1 l2 1 H.size ) (cwV 1 hts (goodIn_of _ (by decide +kernel)) rfl rfl rfl (by decide +kernel) ⟨Nat.le_of_ble_eq_true rfl, Nat.le_of_ble_eq_true rfl⟩) ⟨fun a U g mk q => by obtain ⟨q0, q1, qP, qK, qD, qZ⟩ := q; exact ⟨q0, q1, qP, va_K.moved (u := U) (U := U.calling g mk a) (Vm.Alike.refl U.vm) qK, qD, qZ.call⟩, va_recv hKc hPc (ci := 12) (q0 := 0) rfl rfl, fun U hU hW => ⟨rfl, by rw [hU], by rw [hU]; exact hPc, va_K.moved hW.alike hKc, hDc.weaken (fun _ _ _ _ => trivial), by rw [hU]; exact hZc.warm hW⟩⟩ rfl rfl hl.1 rfl (lv_room (Nat.le_of_ble_eq_true rfl)) dX10_ofMachine_15 ⟨Nat.le_of_ble_eq_true rfl, Nat.le_of_ble_eq_true rfl⟩) hS (fun q _ h => hFc q h) hFc (fun r_3 u t H1 locs ht hvm hw hB hz1 hk1 hS => ?_)
  obtain ⟨hP1, hK1, hD1⟩ := hB
  rw [ht] at hP1
  have hK1 := va_K.moved hvm.symm hK1
  obtain ⟨hP, hD⟩ := va_join (wr := [(l1, .inr (1, [.int 0, .ref a0, .int 0]))]) (w1 := [(m0, .inr (12, [.int 1, .ref l1, .ref l2, .int 0, .int 0, .int 0, .long 0]))]) hP hD [0] [1] rfl rfl (by decide) (by decide) hk1 hFc hP1 hD1
  have hK := (hK.sub (tys' := []) [] rfl).app hK1
  generalize H1 = H at hP hS ⊢
  have hP : va_P (dC, dI) vwCl [(l1, .inr (1, [.int 0, .ref a0, .int 0])), (m0, .inr (12, [.int 1, .ref l1, .ref l2, .int 0, .int 0, .int 0, .long 0]))] H := hP
  have hD : va_D A [(l1, .inr (1, [.int 0, .ref a0, .int 0])), (m0, .inr (12, [.int 1, .ref l1, .ref l2, .int 0, .int 0, .int 0, .long 0]))] := hD
  have hK : va_K (dC, dI) vwCl [] s := hK
  refine W.widen (k := 0) (n := 0) (Nat.le_of_ble_eq_true rfl) (Nat.le_of_ble_eq_true rfl) ?_
  obtain rfl : r_3 = 0 := hw
  have hP9 := hP.sub (ws' := [(m0, .inr (12, [.int 1, .ref l1, .ref l2, .int 0, .int 0, .int 0, .long 0]))]) [1] rfl
  have hD9 := hD.sub (ws' := [(m0, .inr (12, [.int 1, .ref l1, .ref l2, .int 0, .int 0, .int 0, .long 0]))]) [1] (by decide) rfl
  have hK9 := hK.sub (tys' := []) [] rfl
  refine W.widen (k := 0) (n := 0) (Nat.le_of_ble_eq_true rfl) (Nat.le_of_ble_eq_true rfl) ?_
  exact W.iret (v := 0) hx hb hr (fun t ht hW => ⟨⟨0, (), rfl, rfl, ⟨by rw [ht]; exact hP9, va_K.moved hW.alike hK9, hD9⟩⟩, hS.F ht⟩) hS.2.2 dX10_ofMachine_18

def zs_c_X10_at : List Cond := .code yX10_at cX10_at 4 (some .int) :: (([.fieldLink RX10 19 "HaltingaleModel" "thrown" "I", .code yX10_isMachine cX10_isMachine 2 (some .boolean), .fieldLink RX10 10 "HaltingaleModel" "machines" "Ljava/util/ArrayList;", .code yJx4a65c_size_8abf5 cJx4a65c_size_8abf5 1 (some .int), .fieldLink RJx4a65c 48 "java/util/ArrayList" "size" "I", .methodLink RX10 23 yJx4a65c_size_8abf5, .instanceMethod yJx4a65c_size_8abf5, .initialized RJx4a65c, .selects RJx4a65c yJx4a65c_size_8abf5 yJx4a65c_size_8abf5, .code yX10_is cX10_is 3 (some .boolean), .methodLink RX10 27 yX10_is, .static yX10_is, .initialized RX10, .methodLink RX10 44 yX10_isMachine, .instanceMethod yX10_isMachine, .selects RX10 yX10_isMachine yX10_isMachine, .code yX10_refuse cX10_refuse 2 (some .int), .methodLink RX10 31 yX10_refuse, .instanceMethod yX10_refuse, .selects RX10 yX10_refuse yX10_refuse] : List Cond) ++ wsX100 ++ wsJx4a65c0)
set_option maxHeartbeats 4000000 in
set_option maxRecDepth 100000 in
/-- at of no machine -/
theorem c_X10_at (l : Launch) (hnt : l.stackTraces = false) (dC : Nat → ClassId) (dI : Nat → Nat → Nat) (a0 : Nat) (m0 : Nat) (l1 : Nat) (l2 : Nat) (p0 : Int32) (p1 : Int32) (p2 : Int32) (sz : Nat)  : Met l yX10_at zs_c_X10_at ({ frames := 2, cells := 0, slots := 0, locals := 43 }) (va_Pc [.ref m0, .int p0, .int p1, .int p2] (fun U => U.heap.size = sz ∧ va_P (dC, dI) vwCl [(m0, .inr (12, [.int 0, .ref l1, .ref l2, .int 0, .int 0, .int 0, .long 0])), (l1, .inr (1, [.int 0, .ref a0, .int 0]))] U.heap ∧ va_K (dC, dI) vwCl [] U ∧ va_D (fun _ => True) [(m0, .inr (12, [.int 0, .ref l1, .ref l2, .int 0, .int 0, .int 0, .long 0])), (l1, .inr (1, [.int 0, .ref a0, .int 0]))] ∧ zB a0 (va_A [(m0, .inr (12, [.int 0, .ref l1, .ref l2, .int 0, .int 0, .int 0, .long 0])), (l1, .inr (1, [.int 0, .ref a0, .int 0]))] sz) U U.heap)) (va_Qi (fun (r : Int32) (_ : Unit) => r = 0) (fun _ t => va_P (dC, dI) vwCl [(m0, .inr (12, [.int 1, .ref l1, .ref l2, .int 0, .int 0, .int 0, .long 0]))] t.heap ∧ va_K (dC, dI) vwCl [] t ∧ va_D (va_A [(m0, .inr (12, [.int 0, .ref l1, .ref l2, .int 0, .int 0, .int 0, .long 0])), (l1, .inr (1, [.int 0, .ref a0, .int 0]))] sz) [(m0, .inr (12, [.int 1, .ref l1, .ref l2, .int 0, .int 0, .int 0, .long 0]))]) (va_A [(m0, .inr (12, [.int 0, .ref l1, .ref l2, .int 0, .int 0, .int 0, .long 0])), (l1, .inr (1, [.int 0, .ref a0, .int 0]))] sz)) 0 0 (va_A [(m0, .inr (12, [.int 0, .ref l1, .ref l2, .int 0, .int 0, .int 0, .long 0])), (l1, .inr (1, [.int 0, .ref a0, .int 0]))] sz) := by
  refine Met.ofW (cc := cX10_at) (maxL := 4) (ret := (some .int)) (by decide) rfl ?_
  intro p e s m args below meth c s₁ B hml hv
  obtain ⟨rfl, hsz, hP, hK, hD0, hZ⟩ := hv
  have hx := B.exec
  have hb := B.bytes
  have hr := B.returns
  have hts := atoms_spec (ws := zs_c_X10_at) B.pre
  have hown : s.vm.findClass RX10 = some m.cls := findClass_of_methodNamed B.named
  have hlocks := B.notSynchronized
  have hiX10 : ∀ w ∈ wsX100, w ∈ zs_c_X10_at := by decide +kernel
  subst hsz
  have hD := hD0.self (sz := s.heap.size)
  generalize hAe : va_A [(m0, .inr (12, [.int 0, .ref l1, .ref l2, .int 0, .int 0, .int 0, .long 0])), (l1, .inr (1, [.int 0, .ref a0, .int 0]))] s.heap.size = A at hD hZ ⊢
  have hA : ∀ q : Nat, s.heap.size ≤ q → A q := fun q h => by rw [← hAe]; exact Or.inr h
  have hS : va_S A s.heap s.heap [] := va_S.rf
  have hl := lv_entry ([.ref m0, .int p0, .int p1, .int p2]) (n := 4) (Nat.le_of_ble_eq_true rfl)
  rw [lg_entry_eq]
  generalize (lg_sl ([.ref m0, .int p0, .int p1, .int p2]) ++ List.replicate (4 - (lg_sl ([.ref m0, .int p0, .int p1, .int p2])).length) Slot.unset).toArray = ls at hl ⊢
  have hl : lv_has ls 4 [(0, .ref m0), (1, .int p0), (2, .int p1), (3, .int p2)] := hl
  refine lv_aload_n hx hb dX10_at_0 rfl (lv_at hl 0 rfl) ?_
  refine lv_iconst (v := 0) hx hb dX10_at_1 (by decide) ?_
  refine va_put (D := (dC, dI)) (ci := 12) (v := .int 0) (ty := .int) (C := RX10) (T := TX10) (N := 7) hx hb hts hiX10 tyX10 tyX10_ok nmX10 hown hK hP hD hS 0 rfl rfl 0 (by decide) (hts (.fieldLink RX10 19 "HaltingaleModel" "thrown" "I") (by decide +kernel)) (fun _ h9 => h9) rfl (by decide +kernel) rfl rfl (Nat.le_of_ble_eq_true rfl) dX10_at_2 (fun H locs hP hD hS => ?_)
  have hP : va_P (dC, dI) vwCl [(m0, .inr (12, [.int 0, .ref l1, .ref l2, .int 0, .int 0, .int 0, .long 0])), (l1, .inr (1, [.int 0, .ref a0, .int 0]))] H := hP
  have hD : va_D A [(m0, .inr (12, [.int 0, .ref l1, .ref l2, .int 0, .int 0, .int 0, .long 0])), (l1, .inr (1, [.int 0, .ref a0, .int 0]))] := hD
  refine lv_aload_n hx hb dX10_at_5 rfl (lv_at hl 0 rfl) ?_
  refine lv_iload_n hx hb dX10_at_6 rfl (lv_at hl 1 rfl) ?_
  have hPc := hP.sub (ws' := [(m0, .inr (12, [.int 0, .ref l1, .ref l2, .int 0, .int 0, .int 0, .long 0])), (l1, .inr (1, [.int 0, .ref a0, .int 0]))]) [0, 1] rfl
  have hDc := hD.sub (ws' := [(m0, .inr (12, [.int 0, .ref l1, .ref l2, .int 0, .int 0, .int 0, .long 0])), (l1, .inr (1, [.int 0, .ref a0, .int 0]))]) [0, 1] (by decide) rfl
  have hKc := hK.sub (tys' := []) [] rfl
  have hFc := va_free (wc := [(m0, .inr (12, [.int 0, .ref l1, .ref l2, .int 0, .int 0, .int 0, .long 0])), (l1, .inr (1, [.int 0, .ref a0, .int 0]))]) hD hS hA [0, 1] rfl
  have hZc := ((hZ.kept hS.2.1).narrow hFc)
  refine va_calli (va_runV (As := [.int p0]) (rest := []) ⟨hx, hb, hml, hown, hts⟩ (c_X10_isMachine l hnt dC dI a0 m0 l1 l2 p0 H.size ) (cwV 1 hts (goodIn_of _ (by decide +kernel)) rfl rfl rfl (by decide +kernel) ⟨Nat.le_of_ble_eq_true rfl, Nat.le_of_ble_eq_true rfl⟩) ⟨fun a U g mk q => by obtain ⟨q0, q1, qP, qK, qD, qZ⟩ := q; exact ⟨q0, q1, qP, va_K.moved (u := U) (U := U.calling g mk a) (Vm.Alike.refl U.vm) qK, qD, qZ.call⟩, va_recv hKc hPc (ci := 12) (q0 := 0) rfl rfl, fun U hU hW => ⟨rfl, by rw [hU], by rw [hU]; exact hPc, va_K.moved hW.alike hKc, hDc.weaken (fun _ _ _ _ => trivial), by rw [hU]; exact hZc.warm hW⟩⟩ rfl rfl hl.1 rfl (lv_room (Nat.le_of_ble_eq_true rfl)) dX10_at_7 ⟨Nat.le_of_ble_eq_true rfl, Nat.le_of_ble_eq_true rfl⟩) hS (fun q _ h => hFc q h) hFc (fun r_1 u t H1 locs ht hvm hw hB hz1 hk1 hS => ?_)
  obtain ⟨hP1, hK1, hD1⟩ := hB
  rw [ht] at hP1
  have hK1 := va_K.moved hvm.symm hK1
  obtain ⟨hP, hD⟩ := va_join (wr := []) (w1 := [(m0, .inr (12, [.int 0, .ref l1, .ref l2, .int 0, .int 0, .int 0, .long 0])), (l1, .inr (1, [.int 0, .ref a0, .int 0]))]) hP hD [0, 1] [] rfl rfl (by decide) (by decide) hk1 hFc hP1 hD1
  have hK := (hK.sub (tys' := []) [] rfl).app hK1
  generalize H1 = H at hP hS ⊢
  have hP : va_P (dC, dI) vwCl [(m0, .inr (12, [.int 0, .ref l1, .ref l2, .int 0, .int 0, .int 0, .long 0])), (l1, .inr (1, [.int 0, .ref a0, .int 0]))] H := hP
  have hD : va_D A [(m0, .inr (12, [.int 0, .ref l1, .ref l2, .int 0, .int 0, .int 0, .long 0])), (l1, .inr (1, [.int 0, .ref a0, .int 0]))] := hD
  have hK : va_K (dC, dI) vwCl [] s := hK
  refine W.widen (k := 0) (n := 0) (Nat.le_of_ble_eq_true rfl) (Nat.le_of_ble_eq_true rfl) ?_
  obtain rfl : r_1 = 0 := hw
  refine lv_if_ne (tgt := 19) hx hb dX10_at_10 (by decide) (fun c_2 => ?_) (fun c_2 => ?_)
  · (first | exact absurd c_2 (by decide) | exact absurd (by decide) c_2)
  refine lv_aload_n hx hb dX10_at_13 rfl (lv_at hl 0 rfl) ?_
  refine lv_iconst (v := 1) hx hb dX10_at_14 (by decide) ?_
  have hPc := hP.sub (ws' := [(m0, .inr (12, [.int 0, .ref l1, .ref l2, .int 0, .int 0, .int 0, .long 0]))]) [0] rfl
  have hDc := hD.sub (ws' := [(m0, .inr (12, [.int 0, .ref l1, .ref l2, .int 0, .int 0, .int 0, .long 0]))]) [0] (by decide) rfl
  have hKc := hK.sub (tys' := []) [] rfl
  have hFc := va_free (wc := [(m0, .inr (12, [.int 0, .ref l1, .ref l2, .int 0, .int 0, .int 0, .long 0]))]) hD hS hA [0] rfl
  have hZc := ((hZ.kept hS.2.1).narrow hFc)
  refine va_calli (va_runV (As := [.int 1]) (rest := []) ⟨hx, hb, hml, hown, hts⟩ (c_X10_refuse l hnt dC dI a0 m0 l1 l2 1 H.size ) (cwV 1 hts (goodIn_of _ (by decide +kernel)) rfl rfl rfl (by decide +kernel) ⟨Nat.le_of_ble_eq_true rfl, Nat.le_of_ble_eq_true rfl⟩) ⟨fun a U g mk q => by obtain ⟨q0, q1, qP, qK, qD, qZ⟩ := q; exact ⟨q0, q1, qP, va_K.moved (u := U) (U := U.calling g mk a) (Vm.Alike.refl U.vm) qK, qD, qZ.call⟩, va_recv hKc hPc (ci := 12) (q0 := 0) rfl rfl, fun U hU hW => ⟨rfl, by rw [hU], by rw [hU]; exact hPc, va_K.moved hW.alike hKc, hDc.weaken (fun _ _ _ _ => trivial), by rw [hU]; exact hZc.warm hW⟩⟩ rfl rfl hl.1 rfl (lv_room (Nat.le_of_ble_eq_true rfl)) dX10_at_15 ⟨Nat.le_of_ble_eq_true rfl, Nat.le_of_ble_eq_true rfl⟩) hS (fun q _ h => hFc q h) hFc (fun r_3 u t H1 locs ht hvm hw hB hz1 hk1 hS => ?_)
  obtain ⟨hP1, hK1, hD1⟩ := hB
  rw [ht] at hP1
  have hK1 := va_K.moved hvm.symm hK1
  obtain ⟨hP, hD⟩ := va_join (wr := [(l1, .inr (1, [.int 0, .ref a0, .int 0]))]) (w1 := [(m0, .inr (12, [.int 1, .ref l1, .ref l2, .int 0, .int 0, .int 0, .long 0]))]) hP hD [0] [1] rfl rfl (by decide) (by decide) hk1 hFc hP1 hD1
  have hK := (hK.sub (tys' := []) [] rfl).app hK1
  generalize H1 = H at hP hS ⊢
  have hP : va_P (dC, dI) vwCl [(l1, .inr (1, [.int 0, .ref a0, .int 0])), (m0, .inr (12, [.int 1, .ref l1, .ref l2, .int 0, .int 0, .int 0, .long 0]))] H := hP
  have hD : va_D A [(l1, .inr (1, [.int 0, .ref a0, .int 0])), (m0, .inr (12, [.int 1, .ref l1, .ref l2, .int 0, .int 0, .int 0, .long 0]))] := hD
  have hK : va_K (dC, dI) vwCl [] s := hK
  refine W.widen (k := 0) (n := 0) (Nat.le_of_ble_eq_true rfl) (Nat.le_of_ble_eq_true rfl) ?_
  obtain rfl : r_3 = 0 := hw
  have hP9 := hP.sub (ws' := [(m0, .inr (12, [.int 1, .ref l1, .ref l2, .int 0, .int 0, .int 0, .long 0]))]) [1] rfl
  have hD9 := hD.sub (ws' := [(m0, .inr (12, [.int 1, .ref l1, .ref l2, .int 0, .int 0, .int 0, .long 0]))]) [1] (by decide) rfl
  have hK9 := hK.sub (tys' := []) [] rfl
  refine W.widen (k := 0) (n := 0) (Nat.le_of_ble_eq_true rfl) (Nat.le_of_ble_eq_true rfl) ?_
  exact W.iret (v := 0) hx hb hr (fun t ht hW => ⟨⟨0, (), rfl, rfl, ⟨by rw [ht]; exact hP9, va_K.moved hW.alike hK9, hD9⟩⟩, hS.F ht⟩) hS.2.2 dX10_at_18

def zs_c_X10_symbol : List Cond := .code yX10_symbol cX10_symbol 4 (some .int) :: (([.fieldLink RX10 19 "HaltingaleModel" "thrown" "I", .code yX10_isMachine cX10_isMachine 2 (some .boolean), .fieldLink RX10 10 "HaltingaleModel" "machines" "Ljava/util/ArrayList;", .code yJx4a65c_size_8abf5 cJx4a65c_size_8abf5 1 (some .int), .fieldLink RJx4a65c 48 "java/util/ArrayList" "size" "I", .methodLink RX10 23 yJx4a65c_size_8abf5, .instanceMethod yJx4a65c_size_8abf5, .initialized RJx4a65c, .selects RJx4a65c yJx4a65c_size_8abf5 yJx4a65c_size_8abf5, .code yX10_is cX10_is 3 (some .boolean), .methodLink RX10 27 yX10_is, .static yX10_is, .initialized RX10, .methodLink RX10 44 yX10_isMachine, .instanceMethod yX10_isMachine, .selects RX10 yX10_isMachine yX10_isMachine, .code yX10_refuse cX10_refuse 2 (some .int), .methodLink RX10 31 yX10_refuse, .instanceMethod yX10_refuse, .selects RX10 yX10_refuse yX10_refuse] : List Cond) ++ wsX100 ++ wsJx4a65c0)
set_option maxHeartbeats 4000000 in
set_option maxRecDepth 100000 in
/-- symbol of no machine -/
theorem c_X10_symbol (l : Launch) (hnt : l.stackTraces = false) (dC : Nat → ClassId) (dI : Nat → Nat → Nat) (a0 : Nat) (m0 : Nat) (l1 : Nat) (l2 : Nat) (p0 : Int32) (p1 : Int32) (p2 : Int32) (sz : Nat)  : Met l yX10_symbol zs_c_X10_symbol ({ frames := 2, cells := 0, slots := 0, locals := 43 }) (va_Pc [.ref m0, .int p0, .int p1, .int p2] (fun U => U.heap.size = sz ∧ va_P (dC, dI) vwCl [(m0, .inr (12, [.int 0, .ref l1, .ref l2, .int 0, .int 0, .int 0, .long 0])), (l1, .inr (1, [.int 0, .ref a0, .int 0]))] U.heap ∧ va_K (dC, dI) vwCl [] U ∧ va_D (fun _ => True) [(m0, .inr (12, [.int 0, .ref l1, .ref l2, .int 0, .int 0, .int 0, .long 0])), (l1, .inr (1, [.int 0, .ref a0, .int 0]))] ∧ zB a0 (va_A [(m0, .inr (12, [.int 0, .ref l1, .ref l2, .int 0, .int 0, .int 0, .long 0])), (l1, .inr (1, [.int 0, .ref a0, .int 0]))] sz) U U.heap)) (va_Qi (fun (r : Int32) (_ : Unit) => r = 0) (fun _ t => va_P (dC, dI) vwCl [(m0, .inr (12, [.int 1, .ref l1, .ref l2, .int 0, .int 0, .int 0, .long 0]))] t.heap ∧ va_K (dC, dI) vwCl [] t ∧ va_D (va_A [(m0, .inr (12, [.int 0, .ref l1, .ref l2, .int 0, .int 0, .int 0, .long 0])), (l1, .inr (1, [.int 0, .ref a0, .int 0]))] sz) [(m0, .inr (12, [.int 1, .ref l1, .ref l2, .int 0, .int 0, .int 0, .long 0]))]) (va_A [(m0, .inr (12, [.int 0, .ref l1, .ref l2, .int 0, .int 0, .int 0, .long 0])), (l1, .inr (1, [.int 0, .ref a0, .int 0]))] sz)) 0 0 (va_A [(m0, .inr (12, [.int 0, .ref l1, .ref l2, .int 0, .int 0, .int 0, .long 0])), (l1, .inr (1, [.int 0, .ref a0, .int 0]))] sz) := by
  refine Met.ofW (cc := cX10_symbol) (maxL := 4) (ret := (some .int)) (by decide) rfl ?_
  intro p e s m args below meth c s₁ B hml hv
  obtain ⟨rfl, hsz, hP, hK, hD0, hZ⟩ := hv
  have hx := B.exec
  have hb := B.bytes
  have hr := B.returns
  have hts := atoms_spec (ws := zs_c_X10_symbol) B.pre
  have hown : s.vm.findClass RX10 = some m.cls := findClass_of_methodNamed B.named
  have hlocks := B.notSynchronized
  have hiX10 : ∀ w ∈ wsX100, w ∈ zs_c_X10_symbol := by decide +kernel
  subst hsz
  have hD := hD0.self (sz := s.heap.size)
  generalize hAe : va_A [(m0, .inr (12, [.int 0, .ref l1, .ref l2, .int 0, .int 0, .int 0, .long 0])), (l1, .inr (1, [.int 0, .ref a0, .int 0]))] s.heap.size = A at hD hZ ⊢
  have hA : ∀ q : Nat, s.heap.size ≤ q → A q := fun q h => by rw [← hAe]; exact Or.inr h
  have hS : va_S A s.heap s.heap [] := va_S.rf
  have hl := lv_entry ([.ref m0, .int p0, .int p1, .int p2]) (n := 4) (Nat.le_of_ble_eq_true rfl)
  rw [lg_entry_eq]
  generalize (lg_sl ([.ref m0, .int p0, .int p1, .int p2]) ++ List.replicate (4 - (lg_sl ([.ref m0, .int p0, .int p1, .int p2])).length) Slot.unset).toArray = ls at hl ⊢
  have hl : lv_has ls 4 [(0, .ref m0), (1, .int p0), (2, .int p1), (3, .int p2)] := hl
  refine lv_aload_n hx hb dX10_symbol_0 rfl (lv_at hl 0 rfl) ?_
  refine lv_iconst (v := 0) hx hb dX10_symbol_1 (by decide) ?_
  refine va_put (D := (dC, dI)) (ci := 12) (v := .int 0) (ty := .int) (C := RX10) (T := TX10) (N := 7) hx hb hts hiX10 tyX10 tyX10_ok nmX10 hown hK hP hD hS 0 rfl rfl 0 (by decide) (hts (.fieldLink RX10 19 "HaltingaleModel" "thrown" "I") (by decide +kernel)) (fun _ h9 => h9) rfl (by decide +kernel) rfl rfl (Nat.le_of_ble_eq_true rfl) dX10_symbol_2 (fun H locs hP hD hS => ?_)
  have hP : va_P (dC, dI) vwCl [(m0, .inr (12, [.int 0, .ref l1, .ref l2, .int 0, .int 0, .int 0, .long 0])), (l1, .inr (1, [.int 0, .ref a0, .int 0]))] H := hP
  have hD : va_D A [(m0, .inr (12, [.int 0, .ref l1, .ref l2, .int 0, .int 0, .int 0, .long 0])), (l1, .inr (1, [.int 0, .ref a0, .int 0]))] := hD
  refine lv_aload_n hx hb dX10_symbol_5 rfl (lv_at hl 0 rfl) ?_
  refine lv_iload_n hx hb dX10_symbol_6 rfl (lv_at hl 1 rfl) ?_
  have hPc := hP.sub (ws' := [(m0, .inr (12, [.int 0, .ref l1, .ref l2, .int 0, .int 0, .int 0, .long 0])), (l1, .inr (1, [.int 0, .ref a0, .int 0]))]) [0, 1] rfl
  have hDc := hD.sub (ws' := [(m0, .inr (12, [.int 0, .ref l1, .ref l2, .int 0, .int 0, .int 0, .long 0])), (l1, .inr (1, [.int 0, .ref a0, .int 0]))]) [0, 1] (by decide) rfl
  have hKc := hK.sub (tys' := []) [] rfl
  have hFc := va_free (wc := [(m0, .inr (12, [.int 0, .ref l1, .ref l2, .int 0, .int 0, .int 0, .long 0])), (l1, .inr (1, [.int 0, .ref a0, .int 0]))]) hD hS hA [0, 1] rfl
  have hZc := ((hZ.kept hS.2.1).narrow hFc)
  refine va_calli (va_runV (As := [.int p0]) (rest := []) ⟨hx, hb, hml, hown, hts⟩ (c_X10_isMachine l hnt dC dI a0 m0 l1 l2 p0 H.size ) (cwV 1 hts (goodIn_of _ (by decide +kernel)) rfl rfl rfl (by decide +kernel) ⟨Nat.le_of_ble_eq_true rfl, Nat.le_of_ble_eq_true rfl⟩) ⟨fun a U g mk q => by obtain ⟨q0, q1, qP, qK, qD, qZ⟩ := q; exact ⟨q0, q1, qP, va_K.moved (u := U) (U := U.calling g mk a) (Vm.Alike.refl U.vm) qK, qD, qZ.call⟩, va_recv hKc hPc (ci := 12) (q0 := 0) rfl rfl, fun U hU hW => ⟨rfl, by rw [hU], by rw [hU]; exact hPc, va_K.moved hW.alike hKc, hDc.weaken (fun _ _ _ _ => trivial), by rw [hU]; exact hZc.warm hW⟩⟩ rfl rfl hl.1 rfl (lv_room (Nat.le_of_ble_eq_true rfl)) dX10_symbol_7 ⟨Nat.le_of_ble_eq_true rfl, Nat.le_of_ble_eq_true rfl⟩) hS (fun q _ h => hFc q h) hFc (fun r_1 u t H1 locs ht hvm hw hB hz1 hk1 hS => ?_)
  obtain ⟨hP1, hK1, hD1⟩ := hB
  rw [ht] at hP1
  have hK1 := va_K.moved hvm.symm hK1
  obtain ⟨hP, hD⟩ := va_join (wr := []) (w1 := [(m0, .inr (12, [.int 0, .ref l1, .ref l2, .int 0, .int 0, .int 0, .long 0])), (l1, .inr (1, [.int 0, .ref a0, .int 0]))]) hP hD [0, 1] [] rfl rfl (by decide) (by decide) hk1 hFc hP1 hD1
  have hK := (hK.sub (tys' := []) [] rfl).app hK1
  generalize H1 = H at hP hS ⊢
  have hP : va_P (dC, dI) vwCl [(m0, .inr (12, [.int 0, .ref l1, .ref l2, .int 0, .int 0, .int 0, .long 0])), (l1, .inr (1, [.int 0, .ref a0, .int 0]))] H := hP
  have hD : va_D A [(m0, .inr (12, [.int 0, .ref l1, .ref l2, .int 0, .int 0, .int 0, .long 0])), (l1, .inr (1, [.int 0, .ref a0, .int 0]))] := hD
  have hK : va_K (dC, dI) vwCl [] s := hK
  refine W.widen (k := 0) (n := 0) (Nat.le_of_ble_eq_true rfl) (Nat.le_of_ble_eq_true rfl) ?_
  obtain rfl : r_1 = 0 := hw
  refine lv_if_ne (tgt := 19) hx hb dX10_symbol_10 (by decide) (fun c_2 => ?_) (fun c_2 => ?_)
  · (first | exact absurd c_2 (by decide) | exact absurd (by decide) c_2)
  refine lv_aload_n hx hb dX10_symbol_13 rfl (lv_at hl 0 rfl) ?_
  refine lv_iconst (v := 1) hx hb dX10_symbol_14 (by decide) ?_
  have hPc := hP.sub (ws' := [(m0, .inr (12, [.int 0, .ref l1, .ref l2, .int 0, .int 0, .int 0, .long 0]))]) [0] rfl
  have hDc := hD.sub (ws' := [(m0, .inr (12, [.int 0, .ref l1, .ref l2, .int 0, .int 0, .int 0, .long 0]))]) [0] (by decide) rfl
  have hKc := hK.sub (tys' := []) [] rfl
  have hFc := va_free (wc := [(m0, .inr (12, [.int 0, .ref l1, .ref l2, .int 0, .int 0, .int 0, .long 0]))]) hD hS hA [0] rfl
  have hZc := ((hZ.kept hS.2.1).narrow hFc)
  refine va_calli (va_runV (As := [.int 1]) (rest := []) ⟨hx, hb, hml, hown, hts⟩ (c_X10_refuse l hnt dC dI a0 m0 l1 l2 1 H.size ) (cwV 1 hts (goodIn_of _ (by decide +kernel)) rfl rfl rfl (by decide +kernel) ⟨Nat.le_of_ble_eq_true rfl, Nat.le_of_ble_eq_true rfl⟩) ⟨fun a U g mk q => by obtain ⟨q0, q1, qP, qK, qD, qZ⟩ := q; exact ⟨q0, q1, qP, va_K.moved (u := U) (U := U.calling g mk a) (Vm.Alike.refl U.vm) qK, qD, qZ.call⟩, va_recv hKc hPc (ci := 12) (q0 := 0) rfl rfl, fun U hU hW => ⟨rfl, by rw [hU], by rw [hU]; exact hPc, va_K.moved hW.alike hKc, hDc.weaken (fun _ _ _ _ => trivial), by rw [hU]; exact hZc.warm hW⟩⟩ rfl rfl hl.1 rfl (lv_room (Nat.le_of_ble_eq_true rfl)) dX10_symbol_15 ⟨Nat.le_of_ble_eq_true rfl, Nat.le_of_ble_eq_true rfl⟩) hS (fun q _ h => hFc q h) hFc (fun r_3 u t H1 locs ht hvm hw hB hz1 hk1 hS => ?_)
  obtain ⟨hP1, hK1, hD1⟩ := hB
  rw [ht] at hP1
  have hK1 := va_K.moved hvm.symm hK1
  obtain ⟨hP, hD⟩ := va_join (wr := [(l1, .inr (1, [.int 0, .ref a0, .int 0]))]) (w1 := [(m0, .inr (12, [.int 1, .ref l1, .ref l2, .int 0, .int 0, .int 0, .long 0]))]) hP hD [0] [1] rfl rfl (by decide) (by decide) hk1 hFc hP1 hD1
  have hK := (hK.sub (tys' := []) [] rfl).app hK1
  generalize H1 = H at hP hS ⊢
  have hP : va_P (dC, dI) vwCl [(l1, .inr (1, [.int 0, .ref a0, .int 0])), (m0, .inr (12, [.int 1, .ref l1, .ref l2, .int 0, .int 0, .int 0, .long 0]))] H := hP
  have hD : va_D A [(l1, .inr (1, [.int 0, .ref a0, .int 0])), (m0, .inr (12, [.int 1, .ref l1, .ref l2, .int 0, .int 0, .int 0, .long 0]))] := hD
  have hK : va_K (dC, dI) vwCl [] s := hK
  refine W.widen (k := 0) (n := 0) (Nat.le_of_ble_eq_true rfl) (Nat.le_of_ble_eq_true rfl) ?_
  obtain rfl : r_3 = 0 := hw
  have hP9 := hP.sub (ws' := [(m0, .inr (12, [.int 1, .ref l1, .ref l2, .int 0, .int 0, .int 0, .long 0]))]) [1] rfl
  have hD9 := hD.sub (ws' := [(m0, .inr (12, [.int 1, .ref l1, .ref l2, .int 0, .int 0, .int 0, .long 0]))]) [1] (by decide) rfl
  have hK9 := hK.sub (tys' := []) [] rfl
  refine W.widen (k := 0) (n := 0) (Nat.le_of_ble_eq_true rfl) (Nat.le_of_ble_eq_true rfl) ?_
  exact W.iret (v := 0) hx hb hr (fun t ht hW => ⟨⟨0, (), rfl, rfl, ⟨by rw [ht]; exact hP9, va_K.moved hW.alike hK9, hD9⟩⟩, hS.F ht⟩) hS.2.2 dX10_symbol_18

def zs_c_X10_lean : List Cond := .code yX10_lean cX10_lean 7 (some .double) :: (([.code yX10_isMachine cX10_isMachine 2 (some .boolean), .fieldLink RX10 10 "HaltingaleModel" "machines" "Ljava/util/ArrayList;", .code yJx4a65c_size_8abf5 cJx4a65c_size_8abf5 1 (some .int), .fieldLink RJx4a65c 48 "java/util/ArrayList" "size" "I", .methodLink RX10 23 yJx4a65c_size_8abf5, .instanceMethod yJx4a65c_size_8abf5, .initialized RJx4a65c, .selects RJx4a65c yJx4a65c_size_8abf5 yJx4a65c_size_8abf5, .code yX10_is cX10_is 3 (some .boolean), .methodLink RX10 27 yX10_is, .static yX10_is, .initialized RX10, .methodLink RX10 44 yX10_isMachine, .instanceMethod yX10_isMachine, .selects RX10 yX10_isMachine yX10_isMachine, .fieldLink RX10 19 "HaltingaleModel" "thrown" "I"] : List Cond) ++ wsX100 ++ wsJx4a65c0)
set_option maxHeartbeats 4000000 in
set_option maxRecDepth 100000 in
/-- lean of no machine -/
theorem c_X10_lean (l : Launch) (hnt : l.stackTraces = false) (dC : Nat → ClassId) (dI : Nat → Nat → Nat) (a0 : Nat) (m0 : Nat) (l1 : Nat) (l2 : Nat) (p0 : Int32) (p1 : Int32) (sz : Nat)  : Met l yX10_lean zs_c_X10_lean ({ frames := 2, cells := 0, slots := 0, locals := 43 }) (va_Pc [.ref m0, .int p0, .int p1] (fun U => U.heap.size = sz ∧ va_P (dC, dI) vwCl [(m0, .inr (12, [.int 0, .ref l1, .ref l2, .int 0, .int 0, .int 0, .long 0])), (l1, .inr (1, [.int 0, .ref a0, .int 0]))] U.heap ∧ va_K (dC, dI) vwCl [] U ∧ va_D (fun _ => True) [(m0, .inr (12, [.int 0, .ref l1, .ref l2, .int 0, .int 0, .int 0, .long 0])), (l1, .inr (1, [.int 0, .ref a0, .int 0]))] ∧ zB a0 (va_A [(m0, .inr (12, [.int 0, .ref l1, .ref l2, .int 0, .int 0, .int 0, .long 0])), (l1, .inr (1, [.int 0, .ref a0, .int 0]))] sz) U U.heap)) (va_Qd (fun (r : UInt64) (_ : Unit) => r = FP.dconst0) (fun _ t => va_P (dC, dI) vwCl [(m0, .inr (12, [.int 1, .ref l1, .ref l2, .int 0, .int 0, .int 0, .long 0]))] t.heap ∧ va_K (dC, dI) vwCl [] t ∧ va_D (va_A [(m0, .inr (12, [.int 0, .ref l1, .ref l2, .int 0, .int 0, .int 0, .long 0])), (l1, .inr (1, [.int 0, .ref a0, .int 0]))] sz) [(m0, .inr (12, [.int 1, .ref l1, .ref l2, .int 0, .int 0, .int 0, .long 0]))]) (va_A [(m0, .inr (12, [.int 0, .ref l1, .ref l2, .int 0, .int 0, .int 0, .long 0])), (l1, .inr (1, [.int 0, .ref a0, .int 0]))] sz)) 0 0 (va_A [(m0, .inr (12, [.int 0, .ref l1, .ref l2, .int 0, .int 0, .int 0, .long 0])), (l1, .inr (1, [.int 0, .ref a0, .int 0]))] sz) := by
  refine Met.ofW (cc := cX10_lean) (maxL := 7) (ret := (some .double)) (by decide) rfl ?_
  intro p e s m args below meth c s₁ B hml hv
  obtain ⟨rfl, hsz, hP, hK, hD0, hZ⟩ := hv
  have hx := B.exec
  have hb := B.bytes
  have hr := B.returns
  have hts := atoms_spec (ws := zs_c_X10_lean) B.pre
  have hown : s.vm.findClass RX10 = some m.cls := findClass_of_methodNamed B.named
  have hlocks := B.notSynchronized
  have hiX10 : ∀ w ∈ wsX100, w ∈ zs_c_X10_lean := by decide +kernel
  subst hsz
  have hD := hD0.self (sz := s.heap.size)
  generalize hAe : va_A [(m0, .inr (12, [.int 0, .ref l1, .ref l2, .int 0, .int 0, .int 0, .long 0])), (l1, .inr (1, [.int 0, .ref a0, .int 0]))] s.heap.size = A at hD hZ ⊢
  have hA : ∀ q : Nat, s.heap.size ≤ q → A q := fun q h => by rw [← hAe]; exact Or.inr h
  have hS : va_S A s.heap s.heap [] := va_S.rf
  have hl := lv_entry ([.ref m0, .int p0, .int p1]) (n := 7) (Nat.le_of_ble_eq_true rfl)
  rw [lg_entry_eq]
  generalize (lg_sl ([.ref m0, .int p0, .int p1]) ++ List.replicate (7 - (lg_sl ([.ref m0, .int p0, .int p1])).length) Slot.unset).toArray = ls at hl ⊢
  have hl : lv_has ls 7 [(0, .ref m0), (1, .int p0), (2, .int p1)] := hl
  refine lv_aload_n hx hb dX10_lean_0 rfl (lv_at hl 0 rfl) ?_
  refine lv_aload_n hx hb dX10_lean_1 rfl (lv_at hl 0 rfl) ?_
  refine lv_iload_n hx hb dX10_lean_2 rfl (lv_at hl 1 rfl) ?_
  have hPc := hP.sub (ws' := [(m0, .inr (12, [.int 0, .ref l1, .ref l2, .int 0, .int 0, .int 0, .long 0])), (l1, .inr (1, [.int 0, .ref a0, .int 0]))]) [0, 1] rfl
  have hDc := hD.sub (ws' := [(m0, .inr (12, [.int 0, .ref l1, .ref l2, .int 0, .int 0, .int 0, .long 0])), (l1, .inr (1, [.int 0, .ref a0, .int 0]))]) [0, 1] (by decide) rfl
  have hKc := hK.sub (tys' := []) [] rfl
  have hFc := va_free (wc := [(m0, .inr (12, [.int 0, .ref l1, .ref l2, .int 0, .int 0, .int 0, .long 0])), (l1, .inr (1, [.int 0, .ref a0, .int 0]))]) hD hS hA [0, 1] rfl
  have hZc := ((hZ.kept hS.2.1).narrow hFc)
  refine va_calli (va_runV (As := [.int p0]) (rest := [.ref m0]) ⟨hx, hb, hml, hown, hts⟩ (c_X10_isMachine l hnt dC dI a0 m0 l1 l2 p0 s.heap.size ) (cwV 1 hts (goodIn_of _ (by decide +kernel)) rfl rfl rfl (by decide +kernel) ⟨Nat.le_of_ble_eq_true rfl, Nat.le_of_ble_eq_true rfl⟩) ⟨fun a U g mk q => by obtain ⟨q0, q1, qP, qK, qD, qZ⟩ := q; exact ⟨q0, q1, qP, va_K.moved (u := U) (U := U.calling g mk a) (Vm.Alike.refl U.vm) qK, qD, qZ.call⟩, va_recv hKc hPc (ci := 12) (q0 := 0) rfl rfl, fun U hU hW => ⟨rfl, by rw [hU], by rw [hU]; exact hPc, va_K.moved hW.alike hKc, hDc.weaken (fun _ _ _ _ => trivial), by rw [hU]; exact hZc.warm hW⟩⟩ rfl rfl hl.1 rfl (lv_room (Nat.le_of_ble_eq_true rfl)) dX10_lean_3 ⟨Nat.le_of_ble_eq_true rfl, Nat.le_of_ble_eq_true rfl⟩) hS (fun q _ h => hFc q h) hFc (fun r_1 u t H1 locs ht hvm hw hB hz1 hk1 hS => ?_)
  obtain ⟨hP1, hK1, hD1⟩ := hB
  rw [ht] at hP1
  have hK1 := va_K.moved hvm.symm hK1
  obtain ⟨hP, hD⟩ := va_join (wr := []) (w1 := [(m0, .inr (12, [.int 0, .ref l1, .ref l2, .int 0, .int 0, .int 0, .long 0])), (l1, .inr (1, [.int 0, .ref a0, .int 0]))]) hP hD [0, 1] [] rfl rfl (by decide) (by decide) hk1 hFc hP1 hD1
  have hK := (hK.sub (tys' := []) [] rfl).app hK1
  generalize H1 = H at hP hS ⊢
  have hP : va_P (dC, dI) vwCl [(m0, .inr (12, [.int 0, .ref l1, .ref l2, .int 0, .int 0, .int 0, .long 0])), (l1, .inr (1, [.int 0, .ref a0, .int 0]))] H := hP
  have hD : va_D A [(m0, .inr (12, [.int 0, .ref l1, .ref l2, .int 0, .int 0, .int 0, .long 0])), (l1, .inr (1, [.int 0, .ref a0, .int 0]))] := hD
  have hK : va_K (dC, dI) vwCl [] s := hK
  refine W.widen (k := 0) (n := 0) (Nat.le_of_ble_eq_true rfl) (Nat.le_of_ble_eq_true rfl) ?_
  obtain rfl : r_1 = 0 := hw
  refine lv_if_ne (tgt := 13) hx hb dX10_lean_6 (by decide) (fun c_2 => ?_) (fun c_2 => ?_)
  · (first | exact absurd c_2 (by decide) | exact absurd (by decide) c_2)
  refine lv_iconst (v := 1) hx hb dX10_lean_9 (by decide) ?_
  refine lv_goto (tgt := 29) hx hb dX10_lean_10 (by decide) ?_
  refine va_put (D := (dC, dI)) (ci := 12) (v := .int 1) (ty := .int) (C := RX10) (T := TX10) (N := 7) hx hb hts hiX10 tyX10 tyX10_ok nmX10 hown hK hP hD hS 0 rfl rfl 0 (by decide) (hts (.fieldLink RX10 19 "HaltingaleModel" "thrown" "I") (by decide +kernel)) (fun _ h9 => h9) rfl (by decide +kernel) rfl rfl (Nat.le_of_ble_eq_true rfl) dX10_lean_29 (fun H locs hP hD hS => ?_)
  have hP : va_P (dC, dI) vwCl [(m0, .inr (12, [.int 1, .ref l1, .ref l2, .int 0, .int 0, .int 0, .long 0])), (l1, .inr (1, [.int 0, .ref a0, .int 0]))] H := hP
  have hD : va_D A [(m0, .inr (12, [.int 1, .ref l1, .ref l2, .int 0, .int 0, .int 0, .long 0])), (l1, .inr (1, [.int 0, .ref a0, .int 0]))] := hD
  refine lv_aload_n hx hb dX10_lean_32 rfl (lv_at hl 0 rfl) ?_
  refine va_get (D := (dC, dI)) (ci := 12) (v := .int 1) (C := RX10) (T := TX10) (N := 7) hx hb hts hiX10 hown hK hP 0 rfl rfl 0 (by decide) (hts (.fieldLink RX10 19 "HaltingaleModel" "thrown" "I") (by decide +kernel)) (fun _ h9 => h9) rfl dX10_lean_33 ?_
  refine lv_if_le (tgt := 41) hx hb dX10_lean_36 (by decide) (fun c_3 => ?_) (fun c_3 => ?_)
  · (first | exact absurd c_3 (by decide) | exact absurd (by decide) c_3)
  refine lv_dconst0 hx hb dX10_lean_39 ?_
  have hP9 := hP.sub (ws' := [(m0, .inr (12, [.int 1, .ref l1, .ref l2, .int 0, .int 0, .int 0, .long 0]))]) [0] rfl
  have hD9 := hD.sub (ws' := [(m0, .inr (12, [.int 1, .ref l1, .ref l2, .int 0, .int 0, .int 0, .long 0]))]) [0] (by decide) rfl
  have hK9 := hK.sub (tys' := []) [] rfl
  refine W.widen (k := 0) (n := 0) (Nat.le_of_ble_eq_true rfl) (Nat.le_of_ble_eq_true rfl) ?_
  exact W.dret (v := FP.dconst0) hx hb hr (fun t ht hW => ⟨⟨FP.dconst0, (), rfl, rfl, ⟨by rw [ht]; exact hP9, va_K.moved hW.alike hK9, hD9⟩⟩, hS.F ht⟩) hS.2.2 dX10_lean_40

def zs_c_X10_meets : List Cond := .code yX10_meets cX10_meets 6 (some .int) :: (([.fieldLink RX10 19 "HaltingaleModel" "thrown" "I", .code yX10_isMachine cX10_isMachine 2 (some .boolean), .fieldLink RX10 10 "HaltingaleModel" "machines" "Ljava/util/ArrayList;", .code yJx4a65c_size_8abf5 cJx4a65c_size_8abf5 1 (some .int), .fieldLink RJx4a65c 48 "java/util/ArrayList" "size" "I", .methodLink RX10 23 yJx4a65c_size_8abf5, .instanceMethod yJx4a65c_size_8abf5, .initialized RJx4a65c, .selects RJx4a65c yJx4a65c_size_8abf5 yJx4a65c_size_8abf5, .code yX10_is cX10_is 3 (some .boolean), .methodLink RX10 27 yX10_is, .static yX10_is, .initialized RX10, .methodLink RX10 44 yX10_isMachine, .instanceMethod yX10_isMachine, .selects RX10 yX10_isMachine yX10_isMachine, .code yX10_refuse cX10_refuse 2 (some .int), .methodLink RX10 31 yX10_refuse, .instanceMethod yX10_refuse, .selects RX10 yX10_refuse yX10_refuse] : List Cond) ++ wsX100 ++ wsJx4a65c0)
set_option maxHeartbeats 4000000 in
set_option maxRecDepth 100000 in
/-- meets of no machine -/
theorem c_X10_meets (l : Launch) (hnt : l.stackTraces = false) (dC : Nat → ClassId) (dI : Nat → Nat → Nat) (a0 : Nat) (m0 : Nat) (l1 : Nat) (l2 : Nat) (p0 : Int32) (p1 : Int32) (p2 : Int32) (p3 : Int32) (sz : Nat)  : Met l yX10_meets zs_c_X10_meets ({ frames := 2, cells := 0, slots := 0, locals := 43 }) (va_Pc [.ref m0, .int p0, .int p1, .int p2, .int p3] (fun U => U.heap.size = sz ∧ va_P (dC, dI) vwCl [(m0, .inr (12, [.int 0, .ref l1, .ref l2, .int 0, .int 0, .int 0, .long 0])), (l1, .inr (1, [.int 0, .ref a0, .int 0]))] U.heap ∧ va_K (dC, dI) vwCl [] U ∧ va_D (fun _ => True) [(m0, .inr (12, [.int 0, .ref l1, .ref l2, .int 0, .int 0, .int 0, .long 0])), (l1, .inr (1, [.int 0, .ref a0, .int 0]))] ∧ zB a0 (va_A [(m0, .inr (12, [.int 0, .ref l1, .ref l2, .int 0, .int 0, .int 0, .long 0])), (l1, .inr (1, [.int 0, .ref a0, .int 0]))] sz) U U.heap)) (va_Qi (fun (r : Int32) (_ : Unit) => r = 0) (fun _ t => va_P (dC, dI) vwCl [(m0, .inr (12, [.int 1, .ref l1, .ref l2, .int 0, .int 0, .int 0, .long 0]))] t.heap ∧ va_K (dC, dI) vwCl [] t ∧ va_D (va_A [(m0, .inr (12, [.int 0, .ref l1, .ref l2, .int 0, .int 0, .int 0, .long 0])), (l1, .inr (1, [.int 0, .ref a0, .int 0]))] sz) [(m0, .inr (12, [.int 1, .ref l1, .ref l2, .int 0, .int 0, .int 0, .long 0]))]) (va_A [(m0, .inr (12, [.int 0, .ref l1, .ref l2, .int 0, .int 0, .int 0, .long 0])), (l1, .inr (1, [.int 0, .ref a0, .int 0]))] sz)) 0 0 (va_A [(m0, .inr (12, [.int 0, .ref l1, .ref l2, .int 0, .int 0, .int 0, .long 0])), (l1, .inr (1, [.int 0, .ref a0, .int 0]))] sz) := by
  refine Met.ofW (cc := cX10_meets) (maxL := 6) (ret := (some .int)) (by decide) rfl ?_
  intro p e s m args below meth c s₁ B hml hv
  obtain ⟨rfl, hsz, hP, hK, hD0, hZ⟩ := hv
  have hx := B.exec
  have hb := B.bytes
  have hr := B.returns
  have hts := atoms_spec (ws := zs_c_X10_meets) B.pre
  have hown : s.vm.findClass RX10 = some m.cls := findClass_of_methodNamed B.named
  have hlocks := B.notSynchronized
  have hiX10 : ∀ w ∈ wsX100, w ∈ zs_c_X10_meets := by decide +kernel
  subst hsz
  have hD := hD0.self (sz := s.heap.size)
  generalize hAe : va_A [(m0, .inr (12, [.int 0, .ref l1, .ref l2, .int 0, .int 0, .int 0, .long 0])), (l1, .inr (1, [.int 0, .ref a0, .int 0]))] s.heap.size = A at hD hZ ⊢
  have hA : ∀ q : Nat, s.heap.size ≤ q → A q := fun q h => by rw [← hAe]; exact Or.inr h
  have hS : va_S A s.heap s.heap [] := va_S.rf
  have hl := lv_entry ([.ref m0, .int p0, .int p1, .int p2, .int p3]) (n := 6) (Nat.le_of_ble_eq_true rfl)
  rw [lg_entry_eq]
  generalize (lg_sl ([.ref m0, .int p0, .int p1, .int p2, .int p3]) ++ List.replicate (6 - (lg_sl ([.ref m0, .int p0, .int p1, .int p2, .int p3])).length) Slot.unset).toArray = ls at hl ⊢
  have hl : lv_has ls 6 [(0, .ref m0), (1, .int p0), (2, .int p1), (3, .int p2), (4, .int p3)] := hl
  refine lv_aload_n hx hb dX10_meets_0 rfl (lv_at hl 0 rfl) ?_
  refine lv_iconst (v := 0) hx hb dX10_meets_1 (by decide) ?_
  refine va_put (D := (dC, dI)) (ci := 12) (v := .int 0) (ty := .int) (C := RX10) (T := TX10) (N := 7) hx hb hts hiX10 tyX10 tyX10_ok nmX10 hown hK hP hD hS 0 rfl rfl 0 (by decide) (hts (.fieldLink RX10 19 "HaltingaleModel" "thrown" "I") (by decide +kernel)) (fun _ h9 => h9) rfl (by decide +kernel) rfl rfl (Nat.le_of_ble_eq_true rfl) dX10_meets_2 (fun H locs hP hD hS => ?_)
  have hP : va_P (dC, dI) vwCl [(m0, .inr (12, [.int 0, .ref l1, .ref l2, .int 0, .int 0, .int 0, .long 0])), (l1, .inr (1, [.int 0, .ref a0, .int 0]))] H := hP
  have hD : va_D A [(m0, .inr (12, [.int 0, .ref l1, .ref l2, .int 0, .int 0, .int 0, .long 0])), (l1, .inr (1, [.int 0, .ref a0, .int 0]))] := hD
  refine lv_aload_n hx hb dX10_meets_5 rfl (lv_at hl 0 rfl) ?_
  refine lv_iload_n hx hb dX10_meets_6 rfl (lv_at hl 1 rfl) ?_
  have hPc := hP.sub (ws' := [(m0, .inr (12, [.int 0, .ref l1, .ref l2, .int 0, .int 0, .int 0, .long 0])), (l1, .inr (1, [.int 0, .ref a0, .int 0]))]) [0, 1] rfl
  have hDc := hD.sub (ws' := [(m0, .inr (12, [.int 0, .ref l1, .ref l2, .int 0, .int 0, .int 0, .long 0])), (l1, .inr (1, [.int 0, .ref a0, .int 0]))]) [0, 1] (by decide) rfl
  have hKc := hK.sub (tys' := []) [] rfl
  have hFc := va_free (wc := [(m0, .inr (12, [.int 0, .ref l1, .ref l2, .int 0, .int 0, .int 0, .long 0])), (l1, .inr (1, [.int 0, .ref a0, .int 0]))]) hD hS hA [0, 1] rfl
  have hZc := ((hZ.kept hS.2.1).narrow hFc)
  refine va_calli (va_runV (As := [.int p0]) (rest := []) ⟨hx, hb, hml, hown, hts⟩ (c_X10_isMachine l hnt dC dI a0 m0 l1 l2 p0 H.size ) (cwV 1 hts (goodIn_of _ (by decide +kernel)) rfl rfl rfl (by decide +kernel) ⟨Nat.le_of_ble_eq_true rfl, Nat.le_of_ble_eq_true rfl⟩) ⟨fun a U g mk q => by obtain ⟨q0, q1, qP, qK, qD, qZ⟩ := q; exact ⟨q0, q1, qP, va_K.moved (u := U) (U := U.calling g mk a) (Vm.Alike.refl U.vm) qK, qD, qZ.call⟩, va_recv hKc hPc (ci := 12) (q0 := 0) rfl rfl, fun U hU hW => ⟨rfl, by rw [hU], by rw [hU]; exact hPc, va_K.moved hW.alike hKc, hDc.weaken (fun _ _ _ _ => trivial), by rw [hU]; exact hZc.warm hW⟩⟩ rfl rfl hl.1 rfl (lv_room (Nat.le_of_ble_eq_true rfl)) dX10_meets_7 ⟨Nat.le_of_ble_eq_true rfl, Nat.le_of_ble_eq_true rfl⟩) hS (fun q _ h => hFc q h) hFc (fun r_1 u t H1 locs ht hvm hw hB hz1 hk1 hS => ?_)
  obtain ⟨hP1, hK1, hD1⟩ := hB
  rw [ht] at hP1
  have hK1 := va_K.moved hvm.symm hK1
  obtain ⟨hP, hD⟩ := va_join (wr := []) (w1 := [(m0, .inr (12, [.int 0, .ref l1, .ref l2, .int 0, .int 0, .int 0, .long 0])), (l1, .inr (1, [.int 0, .ref a0, .int 0]))]) hP hD [0, 1] [] rfl rfl (by decide) (by decide) hk1 hFc hP1 hD1
  have hK := (hK.sub (tys' := []) [] rfl).app hK1
  generalize H1 = H at hP hS ⊢
  have hP : va_P (dC, dI) vwCl [(m0, .inr (12, [.int 0, .ref l1, .ref l2, .int 0, .int 0, .int 0, .long 0])), (l1, .inr (1, [.int 0, .ref a0, .int 0]))] H := hP
  have hD : va_D A [(m0, .inr (12, [.int 0, .ref l1, .ref l2, .int 0, .int 0, .int 0, .long 0])), (l1, .inr (1, [.int 0, .ref a0, .int 0]))] := hD
  have hK : va_K (dC, dI) vwCl [] s := hK
  refine W.widen (k := 0) (n := 0) (Nat.le_of_ble_eq_true rfl) (Nat.le_of_ble_eq_true rfl) ?_
  obtain rfl : r_1 = 0 := hw
  refine lv_if_eq (tgt := 46) hx hb dX10_meets_10 (by decide) (fun c_2 => ?_) (fun c_2 => ?_)
  rotate_left
  · (first | exact absurd c_2 (by decide) | exact absurd (by decide) c_2)
  refine lv_aload_n hx hb dX10_meets_46 rfl (lv_at hl 0 rfl) ?_
  refine lv_iconst (v := 1) hx hb dX10_meets_47 (by decide) ?_
  have hPc := hP.sub (ws' := [(m0, .inr (12, [.int 0, .ref l1, .ref l2, .int 0, .int 0, .int 0, .long 0]))]) [0] rfl
  have hDc := hD.sub (ws' := [(m0, .inr (12, [.int 0, .ref l1, .ref l2, .int 0, .int 0, .int 0, .long 0]))]) [0] (by decide) rfl
  have hKc := hK.sub (tys' := []) [] rfl
  have hFc := va_free (wc := [(m0, .inr (12, [.int 0, .ref l1, .ref l2, .int 0, .int 0, .int 0, .long 0]))]) hD hS hA [0] rfl
  have hZc := ((hZ.kept hS.2.1).narrow hFc)
  refine va_calli (va_runV (As := [.int 1]) (rest := []) ⟨hx, hb, hml, hown, hts⟩ (c_X10_refuse l hnt dC dI a0 m0 l1 l2 1 H.size ) (cwV 1 hts (goodIn_of _ (by decide +kernel)) rfl rfl rfl (by decide +kernel) ⟨Nat.le_of_ble_eq_true rfl, Nat.le_of_ble_eq_true rfl⟩) ⟨fun a U g mk q => by obtain ⟨q0, q1, qP, qK, qD, qZ⟩ := q; exact ⟨q0, q1, qP, va_K.moved (u := U) (U := U.calling g mk a) (Vm.Alike.refl U.vm) qK, qD, qZ.call⟩, va_recv hKc hPc (ci := 12) (q0 := 0) rfl rfl, fun U hU hW => ⟨rfl, by rw [hU], by rw [hU]; exact hPc, va_K.moved hW.alike hKc, hDc.weaken (fun _ _ _ _ => trivial), by rw [hU]; exact hZc.warm hW⟩⟩ rfl rfl hl.1 rfl (lv_room (Nat.le_of_ble_eq_true rfl)) dX10_meets_48 ⟨Nat.le_of_ble_eq_true rfl, Nat.le_of_ble_eq_true rfl⟩) hS (fun q _ h => hFc q h) hFc (fun r_3 u t H1 locs ht hvm hw hB hz1 hk1 hS => ?_)
  obtain ⟨hP1, hK1, hD1⟩ := hB
  rw [ht] at hP1
  have hK1 := va_K.moved hvm.symm hK1
  obtain ⟨hP, hD⟩ := va_join (wr := [(l1, .inr (1, [.int 0, .ref a0, .int 0]))]) (w1 := [(m0, .inr (12, [.int 1, .ref l1, .ref l2, .int 0, .int 0, .int 0, .long 0]))]) hP hD [0] [1] rfl rfl (by decide) (by decide) hk1 hFc hP1 hD1
  have hK := (hK.sub (tys' := []) [] rfl).app hK1
  generalize H1 = H at hP hS ⊢
  have hP : va_P (dC, dI) vwCl [(l1, .inr (1, [.int 0, .ref a0, .int 0])), (m0, .inr (12, [.int 1, .ref l1, .ref l2, .int 0, .int 0, .int 0, .long 0]))] H := hP
  have hD : va_D A [(l1, .inr (1, [.int 0, .ref a0, .int 0])), (m0, .inr (12, [.int 1, .ref l1, .ref l2, .int 0, .int 0, .int 0, .long 0]))] := hD
  have hK : va_K (dC, dI) vwCl [] s := hK
  refine W.widen (k := 0) (n := 0) (Nat.le_of_ble_eq_true rfl) (Nat.le_of_ble_eq_true rfl) ?_
  obtain rfl : r_3 = 0 := hw
  have hP9 := hP.sub (ws' := [(m0, .inr (12, [.int 1, .ref l1, .ref l2, .int 0, .int 0, .int 0, .long 0]))]) [1] rfl
  have hD9 := hD.sub (ws' := [(m0, .inr (12, [.int 1, .ref l1, .ref l2, .int 0, .int 0, .int 0, .long 0]))]) [1] (by decide) rfl
  have hK9 := hK.sub (tys' := []) [] rfl
  refine W.widen (k := 0) (n := 0) (Nat.le_of_ble_eq_true rfl) (Nat.le_of_ble_eq_true rfl) ?_
  exact W.iret (v := 0) hx hb hr (fun t ht hW => ⟨⟨0, (), rfl, rfl, ⟨by rw [ht]; exact hP9, va_K.moved hW.alike hK9, hD9⟩⟩, hS.F ht⟩) hS.2.2 dX10_meets_51

def zs_c_X10_likeness : List Cond := .code yX10_likeness cX10_likeness 3 (some .int) :: (([.fieldLink RX10 19 "HaltingaleModel" "thrown" "I", .code yX10_isMachine cX10_isMachine 2 (some .boolean), .fieldLink RX10 10 "HaltingaleModel" "machines" "Ljava/util/ArrayList;", .code yJx4a65c_size_8abf5 cJx4a65c_size_8abf5 1 (some .int), .fieldLink RJx4a65c 48 "java/util/ArrayList" "size" "I", .methodLink RX10 23 yJx4a65c_size_8abf5, .instanceMethod yJx4a65c_size_8abf5, .initialized RJx4a65c, .selects RJx4a65c yJx4a65c_size_8abf5 yJx4a65c_size_8abf5, .code yX10_is cX10_is 3 (some .boolean), .methodLink RX10 27 yX10_is, .static yX10_is, .initialized RX10, .methodLink RX10 44 yX10_isMachine, .instanceMethod yX10_isMachine, .selects RX10 yX10_isMachine yX10_isMachine, .code yX10_refuse cX10_refuse 2 (some .int), .methodLink RX10 31 yX10_refuse, .instanceMethod yX10_refuse, .selects RX10 yX10_refuse yX10_refuse] : List Cond) ++ wsX100 ++ wsJx4a65c0)
set_option maxHeartbeats 4000000 in
set_option maxRecDepth 100000 in
/-- likeness of no machine -/
theorem c_X10_likeness (l : Launch) (hnt : l.stackTraces = false) (dC : Nat → ClassId) (dI : Nat → Nat → Nat) (a0 : Nat) (m0 : Nat) (l1 : Nat) (l2 : Nat) (p0 : Int32) (p1 : Int32) (sz : Nat)  : Met l yX10_likeness zs_c_X10_likeness ({ frames := 2, cells := 0, slots := 0, locals := 43 }) (va_Pc [.ref m0, .int p0, .int p1] (fun U => U.heap.size = sz ∧ va_P (dC, dI) vwCl [(m0, .inr (12, [.int 0, .ref l1, .ref l2, .int 0, .int 0, .int 0, .long 0])), (l1, .inr (1, [.int 0, .ref a0, .int 0]))] U.heap ∧ va_K (dC, dI) vwCl [] U ∧ va_D (fun _ => True) [(m0, .inr (12, [.int 0, .ref l1, .ref l2, .int 0, .int 0, .int 0, .long 0])), (l1, .inr (1, [.int 0, .ref a0, .int 0]))] ∧ zB a0 (va_A [(m0, .inr (12, [.int 0, .ref l1, .ref l2, .int 0, .int 0, .int 0, .long 0])), (l1, .inr (1, [.int 0, .ref a0, .int 0]))] sz) U U.heap)) (va_Qi (fun (r : Int32) (_ : Unit) => r = 0) (fun _ t => va_P (dC, dI) vwCl [(m0, .inr (12, [.int 1, .ref l1, .ref l2, .int 0, .int 0, .int 0, .long 0]))] t.heap ∧ va_K (dC, dI) vwCl [] t ∧ va_D (va_A [(m0, .inr (12, [.int 0, .ref l1, .ref l2, .int 0, .int 0, .int 0, .long 0])), (l1, .inr (1, [.int 0, .ref a0, .int 0]))] sz) [(m0, .inr (12, [.int 1, .ref l1, .ref l2, .int 0, .int 0, .int 0, .long 0]))]) (va_A [(m0, .inr (12, [.int 0, .ref l1, .ref l2, .int 0, .int 0, .int 0, .long 0])), (l1, .inr (1, [.int 0, .ref a0, .int 0]))] sz)) 0 0 (va_A [(m0, .inr (12, [.int 0, .ref l1, .ref l2, .int 0, .int 0, .int 0, .long 0])), (l1, .inr (1, [.int 0, .ref a0, .int 0]))] sz) := by
  refine Met.ofW (cc := cX10_likeness) (maxL := 3) (ret := (some .int)) (by decide) rfl ?_
  intro p e s m args below meth c s₁ B hml hv
  obtain ⟨rfl, hsz, hP, hK, hD0, hZ⟩ := hv
  have hx := B.exec
  have hb := B.bytes
  have hr := B.returns
  have hts := atoms_spec (ws := zs_c_X10_likeness) B.pre
  have hown : s.vm.findClass RX10 = some m.cls := findClass_of_methodNamed B.named
  have hlocks := B.notSynchronized
  have hiX10 : ∀ w ∈ wsX100, w ∈ zs_c_X10_likeness := by decide +kernel
  subst hsz
  have hD := hD0.self (sz := s.heap.size)
  generalize hAe : va_A [(m0, .inr (12, [.int 0, .ref l1, .ref l2, .int 0, .int 0, .int 0, .long 0])), (l1, .inr (1, [.int 0, .ref a0, .int 0]))] s.heap.size = A at hD hZ ⊢
  have hA : ∀ q : Nat, s.heap.size ≤ q → A q := fun q h => by rw [← hAe]; exact Or.inr h
  have hS : va_S A s.heap s.heap [] := va_S.rf
  have hl := lv_entry ([.ref m0, .int p0, .int p1]) (n := 3) (Nat.le_of_ble_eq_true rfl)
  rw [lg_entry_eq]
  generalize (lg_sl ([.ref m0, .int p0, .int p1]) ++ List.replicate (3 - (lg_sl ([.ref m0, .int p0, .int p1])).length) Slot.unset).toArray = ls at hl ⊢
  have hl : lv_has ls 3 [(0, .ref m0), (1, .int p0), (2, .int p1)] := hl
  refine lv_aload_n hx hb dX10_likeness_0 rfl (lv_at hl 0 rfl) ?_
  refine lv_iconst (v := 0) hx hb dX10_likeness_1 (by decide) ?_
  refine va_put (D := (dC, dI)) (ci := 12) (v := .int 0) (ty := .int) (C := RX10) (T := TX10) (N := 7) hx hb hts hiX10 tyX10 tyX10_ok nmX10 hown hK hP hD hS 0 rfl rfl 0 (by decide) (hts (.fieldLink RX10 19 "HaltingaleModel" "thrown" "I") (by decide +kernel)) (fun _ h9 => h9) rfl (by decide +kernel) rfl rfl (Nat.le_of_ble_eq_true rfl) dX10_likeness_2 (fun H locs hP hD hS => ?_)
  have hP : va_P (dC, dI) vwCl [(m0, .inr (12, [.int 0, .ref l1, .ref l2, .int 0, .int 0, .int 0, .long 0])), (l1, .inr (1, [.int 0, .ref a0, .int 0]))] H := hP
  have hD : va_D A [(m0, .inr (12, [.int 0, .ref l1, .ref l2, .int 0, .int 0, .int 0, .long 0])), (l1, .inr (1, [.int 0, .ref a0, .int 0]))] := hD
  refine lv_aload_n hx hb dX10_likeness_5 rfl (lv_at hl 0 rfl) ?_
  refine lv_iload_n hx hb dX10_likeness_6 rfl (lv_at hl 1 rfl) ?_
  have hPc := hP.sub (ws' := [(m0, .inr (12, [.int 0, .ref l1, .ref l2, .int 0, .int 0, .int 0, .long 0])), (l1, .inr (1, [.int 0, .ref a0, .int 0]))]) [0, 1] rfl
  have hDc := hD.sub (ws' := [(m0, .inr (12, [.int 0, .ref l1, .ref l2, .int 0, .int 0, .int 0, .long 0])), (l1, .inr (1, [.int 0, .ref a0, .int 0]))]) [0, 1] (by decide) rfl
  have hKc := hK.sub (tys' := []) [] rfl
  have hFc := va_free (wc := [(m0, .inr (12, [.int 0, .ref l1, .ref l2, .int 0, .int 0, .int 0, .long 0])), (l1, .inr (1, [.int 0, .ref a0, .int 0]))]) hD hS hA [0, 1] rfl
  have hZc := ((hZ.kept hS.2.1).narrow hFc)
  refine va_calli (va_runV (As := [.int p0]) (rest := []) ⟨hx, hb, hml, hown, hts⟩ (c_X10_isMachine l hnt dC dI a0 m0 l1 l2 p0 H.size ) (cwV 1 hts (goodIn_of _ (by decide +kernel)) rfl rfl rfl (by decide +kernel) ⟨Nat.le_of_ble_eq_true rfl, Nat.le_of_ble_eq_true rfl⟩) ⟨fun a U g mk q => by obtain ⟨q0, q1, qP, qK, qD, qZ⟩ := q; exact ⟨q0, q1, qP, va_K.moved (u := U) (U := U.calling g mk a) (Vm.Alike.refl U.vm) qK, qD, qZ.call⟩, va_recv hKc hPc (ci := 12) (q0 := 0) rfl rfl, fun U hU hW => ⟨rfl, by rw [hU], by rw [hU]; exact hPc, va_K.moved hW.alike hKc, hDc.weaken (fun _ _ _ _ => trivial), by rw [hU]; exact hZc.warm hW⟩⟩ rfl rfl hl.1 rfl (lv_room (Nat.le_of_ble_eq_true rfl)) dX10_likeness_7 ⟨Nat.le_of_ble_eq_true rfl, Nat.le_of_ble_eq_true rfl⟩) hS (fun q _ h => hFc q h) hFc (fun r_1 u t H1 locs ht hvm hw hB hz1 hk1 hS => ?_)
  obtain ⟨hP1, hK1, hD1⟩ := hB
  rw [ht] at hP1
  have hK1 := va_K.moved hvm.symm hK1
  obtain ⟨hP, hD⟩ := va_join (wr := []) (w1 := [(m0, .inr (12, [.int 0, .ref l1, .ref l2, .int 0, .int 0, .int 0, .long 0])), (l1, .inr (1, [.int 0, .ref a0, .int 0]))]) hP hD [0, 1] [] rfl rfl (by decide) (by decide) hk1 hFc hP1 hD1
  have hK := (hK.sub (tys' := []) [] rfl).app hK1
  generalize H1 = H at hP hS ⊢
  have hP : va_P (dC, dI) vwCl [(m0, .inr (12, [.int 0, .ref l1, .ref l2, .int 0, .int 0, .int 0, .long 0])), (l1, .inr (1, [.int 0, .ref a0, .int 0]))] H := hP
  have hD : va_D A [(m0, .inr (12, [.int 0, .ref l1, .ref l2, .int 0, .int 0, .int 0, .long 0])), (l1, .inr (1, [.int 0, .ref a0, .int 0]))] := hD
  have hK : va_K (dC, dI) vwCl [] s := hK
  refine W.widen (k := 0) (n := 0) (Nat.le_of_ble_eq_true rfl) (Nat.le_of_ble_eq_true rfl) ?_
  obtain rfl : r_1 = 0 := hw
  refine lv_if_eq (tgt := 21) hx hb dX10_likeness_10 (by decide) (fun c_2 => ?_) (fun c_2 => ?_)
  rotate_left
  · (first | exact absurd c_2 (by decide) | exact absurd (by decide) c_2)
  refine lv_aload_n hx hb dX10_likeness_21 rfl (lv_at hl 0 rfl) ?_
  refine lv_iconst (v := 1) hx hb dX10_likeness_22 (by decide) ?_
  have hPc := hP.sub (ws' := [(m0, .inr (12, [.int 0, .ref l1, .ref l2, .int 0, .int 0, .int 0, .long 0]))]) [0] rfl
  have hDc := hD.sub (ws' := [(m0, .inr (12, [.int 0, .ref l1, .ref l2, .int 0, .int 0, .int 0, .long 0]))]) [0] (by decide) rfl
  have hKc := hK.sub (tys' := []) [] rfl
  have hFc := va_free (wc := [(m0, .inr (12, [.int 0, .ref l1, .ref l2, .int 0, .int 0, .int 0, .long 0]))]) hD hS hA [0] rfl
  have hZc := ((hZ.kept hS.2.1).narrow hFc)
  refine va_calli (va_runV (As := [.int 1]) (rest := []) ⟨hx, hb, hml, hown, hts⟩ (c_X10_refuse l hnt dC dI a0 m0 l1 l2 1 H.size ) (cwV 1 hts (goodIn_of _ (by decide +kernel)) rfl rfl rfl (by decide +kernel) ⟨Nat.le_of_ble_eq_true rfl, Nat.le_of_ble_eq_true rfl⟩) ⟨fun a U g mk q => by obtain ⟨q0, q1, qP, qK, qD, qZ⟩ := q; exact ⟨q0, q1, qP, va_K.moved (u := U) (U := U.calling g mk a) (Vm.Alike.refl U.vm) qK, qD, qZ.call⟩, va_recv hKc hPc (ci := 12) (q0 := 0) rfl rfl, fun U hU hW => ⟨rfl, by rw [hU], by rw [hU]; exact hPc, va_K.moved hW.alike hKc, hDc.weaken (fun _ _ _ _ => trivial), by rw [hU]; exact hZc.warm hW⟩⟩ rfl rfl hl.1 rfl (lv_room (Nat.le_of_ble_eq_true rfl)) dX10_likeness_23 ⟨Nat.le_of_ble_eq_true rfl, Nat.le_of_ble_eq_true rfl⟩) hS (fun q _ h => hFc q h) hFc (fun r_3 u t H1 locs ht hvm hw hB hz1 hk1 hS => ?_)
  obtain ⟨hP1, hK1, hD1⟩ := hB
  rw [ht] at hP1
  have hK1 := va_K.moved hvm.symm hK1
  obtain ⟨hP, hD⟩ := va_join (wr := [(l1, .inr (1, [.int 0, .ref a0, .int 0]))]) (w1 := [(m0, .inr (12, [.int 1, .ref l1, .ref l2, .int 0, .int 0, .int 0, .long 0]))]) hP hD [0] [1] rfl rfl (by decide) (by decide) hk1 hFc hP1 hD1
  have hK := (hK.sub (tys' := []) [] rfl).app hK1
  generalize H1 = H at hP hS ⊢
  have hP : va_P (dC, dI) vwCl [(l1, .inr (1, [.int 0, .ref a0, .int 0])), (m0, .inr (12, [.int 1, .ref l1, .ref l2, .int 0, .int 0, .int 0, .long 0]))] H := hP
  have hD : va_D A [(l1, .inr (1, [.int 0, .ref a0, .int 0])), (m0, .inr (12, [.int 1, .ref l1, .ref l2, .int 0, .int 0, .int 0, .long 0]))] := hD
  have hK : va_K (dC, dI) vwCl [] s := hK
  refine W.widen (k := 0) (n := 0) (Nat.le_of_ble_eq_true rfl) (Nat.le_of_ble_eq_true rfl) ?_
  obtain rfl : r_3 = 0 := hw
  have hP9 := hP.sub (ws' := [(m0, .inr (12, [.int 1, .ref l1, .ref l2, .int 0, .int 0, .int 0, .long 0]))]) [1] rfl
  have hD9 := hD.sub (ws' := [(m0, .inr (12, [.int 1, .ref l1, .ref l2, .int 0, .int 0, .int 0, .long 0]))]) [1] (by decide) rfl
  have hK9 := hK.sub (tys' := []) [] rfl
  refine W.widen (k := 0) (n := 0) (Nat.le_of_ble_eq_true rfl) (Nat.le_of_ble_eq_true rfl) ?_
  exact W.iret (v := 0) hx hb hr (fun t ht hW => ⟨⟨0, (), rfl, rfl, ⟨by rw [ht]; exact hP9, va_K.moved hW.alike hK9, hD9⟩⟩, hS.F ht⟩) hS.2.2 dX10_likeness_26

def zs_c_X10_cycleIn : List Cond := .code yX10_cycleIn cX10_cycleIn 3 (some .int) :: (([.fieldLink RX10 19 "HaltingaleModel" "thrown" "I", .code yX10_isMachine cX10_isMachine 2 (some .boolean), .fieldLink RX10 10 "HaltingaleModel" "machines" "Ljava/util/ArrayList;", .code yJx4a65c_size_8abf5 cJx4a65c_size_8abf5 1 (some .int), .fieldLink RJx4a65c 48 "java/util/ArrayList" "size" "I", .methodLink RX10 23 yJx4a65c_size_8abf5, .instanceMethod yJx4a65c_size_8abf5, .initialized RJx4a65c, .selects RJx4a65c yJx4a65c_size_8abf5 yJx4a65c_size_8abf5, .code yX10_is cX10_is 3 (some .boolean), .methodLink RX10 27 yX10_is, .static yX10_is, .initialized RX10, .methodLink RX10 44 yX10_isMachine, .instanceMethod yX10_isMachine, .selects RX10 yX10_isMachine yX10_isMachine, .code yX10_refuse cX10_refuse 2 (some .int), .methodLink RX10 31 yX10_refuse, .instanceMethod yX10_refuse, .selects RX10 yX10_refuse yX10_refuse] : List Cond) ++ wsX100 ++ wsJx4a65c0)
set_option maxHeartbeats 4000000 in
set_option maxRecDepth 100000 in
/-- cycleIn of no machine -/
theorem c_X10_cycleIn (l : Launch) (hnt : l.stackTraces = false) (dC : Nat → ClassId) (dI : Nat → Nat → Nat) (a0 : Nat) (m0 : Nat) (l1 : Nat) (l2 : Nat) (p0 : Int32) (p1 : Int32) (sz : Nat)  : Met l yX10_cycleIn zs_c_X10_cycleIn ({ frames := 2, cells := 0, slots := 0, locals := 43 }) (va_Pc [.ref m0, .int p0, .int p1] (fun U => U.heap.size = sz ∧ va_P (dC, dI) vwCl [(m0, .inr (12, [.int 0, .ref l1, .ref l2, .int 0, .int 0, .int 0, .long 0])), (l1, .inr (1, [.int 0, .ref a0, .int 0]))] U.heap ∧ va_K (dC, dI) vwCl [] U ∧ va_D (fun _ => True) [(m0, .inr (12, [.int 0, .ref l1, .ref l2, .int 0, .int 0, .int 0, .long 0])), (l1, .inr (1, [.int 0, .ref a0, .int 0]))] ∧ zB a0 (va_A [(m0, .inr (12, [.int 0, .ref l1, .ref l2, .int 0, .int 0, .int 0, .long 0])), (l1, .inr (1, [.int 0, .ref a0, .int 0]))] sz) U U.heap)) (va_Qi (fun (r : Int32) (_ : Unit) => r = 0) (fun _ t => va_P (dC, dI) vwCl [(m0, .inr (12, [.int 1, .ref l1, .ref l2, .int 0, .int 0, .int 0, .long 0]))] t.heap ∧ va_K (dC, dI) vwCl [] t ∧ va_D (va_A [(m0, .inr (12, [.int 0, .ref l1, .ref l2, .int 0, .int 0, .int 0, .long 0])), (l1, .inr (1, [.int 0, .ref a0, .int 0]))] sz) [(m0, .inr (12, [.int 1, .ref l1, .ref l2, .int 0, .int 0, .int 0, .long 0]))]) (va_A [(m0, .inr (12, [.int 0, .ref l1, .ref l2, .int 0, .int 0, .int 0, .long 0])), (l1, .inr (1, [.int 0, .ref a0, .int 0]))] sz)) 0 0 (va_A [(m0, .inr (12, [.int 0, .ref l1, .ref l2, .int 0, .int 0, .int 0, .long 0])), (l1, .inr (1, [.int 0, .ref a0, .int 0]))] sz) := by
  refine Met.ofW (cc := cX10_cycleIn) (maxL := 3) (ret := (some .int)) (by decide) rfl ?_
  intro p e s m args below meth c s₁ B hml hv
  obtain ⟨rfl, hsz, hP, hK, hD0, hZ⟩ := hv
  have hx := B.exec
  have hb := B.bytes
  have hr := B.returns
  have hts := atoms_spec (ws := zs_c_X10_cycleIn) B.pre
  have hown : s.vm.findClass RX10 = some m.cls := findClass_of_methodNamed B.named
  have hlocks := B.notSynchronized
  have hiX10 : ∀ w ∈ wsX100, w ∈ zs_c_X10_cycleIn := by decide +kernel
  subst hsz
  have hD := hD0.self (sz := s.heap.size)
  generalize hAe : va_A [(m0, .inr (12, [.int 0, .ref l1, .ref l2, .int 0, .int 0, .int 0, .long 0])), (l1, .inr (1, [.int 0, .ref a0, .int 0]))] s.heap.size = A at hD hZ ⊢
  have hA : ∀ q : Nat, s.heap.size ≤ q → A q := fun q h => by rw [← hAe]; exact Or.inr h
  have hS : va_S A s.heap s.heap [] := va_S.rf
  have hl := lv_entry ([.ref m0, .int p0, .int p1]) (n := 3) (Nat.le_of_ble_eq_true rfl)
  rw [lg_entry_eq]
  generalize (lg_sl ([.ref m0, .int p0, .int p1]) ++ List.replicate (3 - (lg_sl ([.ref m0, .int p0, .int p1])).length) Slot.unset).toArray = ls at hl ⊢
  have hl : lv_has ls 3 [(0, .ref m0), (1, .int p0), (2, .int p1)] := hl
  refine lv_aload_n hx hb dX10_cycleIn_0 rfl (lv_at hl 0 rfl) ?_
  refine lv_iconst (v := 0) hx hb dX10_cycleIn_1 (by decide) ?_
  refine va_put (D := (dC, dI)) (ci := 12) (v := .int 0) (ty := .int) (C := RX10) (T := TX10) (N := 7) hx hb hts hiX10 tyX10 tyX10_ok nmX10 hown hK hP hD hS 0 rfl rfl 0 (by decide) (hts (.fieldLink RX10 19 "HaltingaleModel" "thrown" "I") (by decide +kernel)) (fun _ h9 => h9) rfl (by decide +kernel) rfl rfl (Nat.le_of_ble_eq_true rfl) dX10_cycleIn_2 (fun H locs hP hD hS => ?_)
  have hP : va_P (dC, dI) vwCl [(m0, .inr (12, [.int 0, .ref l1, .ref l2, .int 0, .int 0, .int 0, .long 0])), (l1, .inr (1, [.int 0, .ref a0, .int 0]))] H := hP
  have hD : va_D A [(m0, .inr (12, [.int 0, .ref l1, .ref l2, .int 0, .int 0, .int 0, .long 0])), (l1, .inr (1, [.int 0, .ref a0, .int 0]))] := hD
  refine lv_aload_n hx hb dX10_cycleIn_5 rfl (lv_at hl 0 rfl) ?_
  refine lv_iload_n hx hb dX10_cycleIn_6 rfl (lv_at hl 1 rfl) ?_
  have hPc := hP.sub (ws' := [(m0, .inr (12, [.int 0, .ref l1, .ref l2, .int 0, .int 0, .int 0, .long 0])), (l1, .inr (1, [.int 0, .ref a0, .int 0]))]) [0, 1] rfl
  have hDc := hD.sub (ws' := [(m0, .inr (12, [.int 0, .ref l1, .ref l2, .int 0, .int 0, .int 0, .long 0])), (l1, .inr (1, [.int 0, .ref a0, .int 0]))]) [0, 1] (by decide) rfl
  have hKc := hK.sub (tys' := []) [] rfl
  have hFc := va_free (wc := [(m0, .inr (12, [.int 0, .ref l1, .ref l2, .int 0, .int 0, .int 0, .long 0])), (l1, .inr (1, [.int 0, .ref a0, .int 0]))]) hD hS hA [0, 1] rfl
  have hZc := ((hZ.kept hS.2.1).narrow hFc)
  refine va_calli (va_runV (As := [.int p0]) (rest := []) ⟨hx, hb, hml, hown, hts⟩ (c_X10_isMachine l hnt dC dI a0 m0 l1 l2 p0 H.size ) (cwV 1 hts (goodIn_of _ (by decide +kernel)) rfl rfl rfl (by decide +kernel) ⟨Nat.le_of_ble_eq_true rfl, Nat.le_of_ble_eq_true rfl⟩) ⟨fun a U g mk q => by obtain ⟨q0, q1, qP, qK, qD, qZ⟩ := q; exact ⟨q0, q1, qP, va_K.moved (u := U) (U := U.calling g mk a) (Vm.Alike.refl U.vm) qK, qD, qZ.call⟩, va_recv hKc hPc (ci := 12) (q0 := 0) rfl rfl, fun U hU hW => ⟨rfl, by rw [hU], by rw [hU]; exact hPc, va_K.moved hW.alike hKc, hDc.weaken (fun _ _ _ _ => trivial), by rw [hU]; exact hZc.warm hW⟩⟩ rfl rfl hl.1 rfl (lv_room (Nat.le_of_ble_eq_true rfl)) dX10_cycleIn_7 ⟨Nat.le_of_ble_eq_true rfl, Nat.le_of_ble_eq_true rfl⟩) hS (fun q _ h => hFc q h) hFc (fun r_1 u t H1 locs ht hvm hw hB hz1 hk1 hS => ?_)
  obtain ⟨hP1, hK1, hD1⟩ := hB
  rw [ht] at hP1
  have hK1 := va_K.moved hvm.symm hK1
  obtain ⟨hP, hD⟩ := va_join (wr := []) (w1 := [(m0, .inr (12, [.int 0, .ref l1, .ref l2, .int 0, .int 0, .int 0, .long 0])), (l1, .inr (1, [.int 0, .ref a0, .int 0]))]) hP hD [0, 1] [] rfl rfl (by decide) (by decide) hk1 hFc hP1 hD1
  have hK := (hK.sub (tys' := []) [] rfl).app hK1
  generalize H1 = H at hP hS ⊢
  have hP : va_P (dC, dI) vwCl [(m0, .inr (12, [.int 0, .ref l1, .ref l2, .int 0, .int 0, .int 0, .long 0])), (l1, .inr (1, [.int 0, .ref a0, .int 0]))] H := hP
  have hD : va_D A [(m0, .inr (12, [.int 0, .ref l1, .ref l2, .int 0, .int 0, .int 0, .long 0])), (l1, .inr (1, [.int 0, .ref a0, .int 0]))] := hD
  have hK : va_K (dC, dI) vwCl [] s := hK
  refine W.widen (k := 0) (n := 0) (Nat.le_of_ble_eq_true rfl) (Nat.le_of_ble_eq_true rfl) ?_
  obtain rfl : r_1 = 0 := hw
  refine lv_if_ne (tgt := 19) hx hb dX10_cycleIn_10 (by decide) (fun c_2 => ?_) (fun c_2 => ?_)
  · (first | exact absurd c_2 (by decide) | exact absurd (by decide) c_2)
  refine lv_aload_n hx hb dX10_cycleIn_13 rfl (lv_at hl 0 rfl) ?_
  refine lv_iconst (v := 1) hx hb dX10_cycleIn_14 (by decide) ?_
  have hPc := hP.sub (ws' := [(m0, .inr (12, [.int 0, .ref l1, .ref l2, .int 0, .int 0, .int 0, .long 0]))]) [0] rfl
  have hDc := hD.sub (ws' := [(m0, .inr (12, [.int 0, .ref l1, .ref l2, .int 0, .int 0, .int 0, .long 0]))]) [0] (by decide) rfl
  have hKc := hK.sub (tys' := []) [] rfl
  have hFc := va_free (wc := [(m0, .inr (12, [.int 0, .ref l1, .ref l2, .int 0, .int 0, .int 0, .long 0]))]) hD hS hA [0] rfl
  have hZc := ((hZ.kept hS.2.1).narrow hFc)
  refine va_calli (va_runV (As := [.int 1]) (rest := []) ⟨hx, hb, hml, hown, hts⟩ (c_X10_refuse l hnt dC dI a0 m0 l1 l2 1 H.size ) (cwV 1 hts (goodIn_of _ (by decide +kernel)) rfl rfl rfl (by decide +kernel) ⟨Nat.le_of_ble_eq_true rfl, Nat.le_of_ble_eq_true rfl⟩) ⟨fun a U g mk q => by obtain ⟨q0, q1, qP, qK, qD, qZ⟩ := q; exact ⟨q0, q1, qP, va_K.moved (u := U) (U := U.calling g mk a) (Vm.Alike.refl U.vm) qK, qD, qZ.call⟩, va_recv hKc hPc (ci := 12) (q0 := 0) rfl rfl, fun U hU hW => ⟨rfl, by rw [hU], by rw [hU]; exact hPc, va_K.moved hW.alike hKc, hDc.weaken (fun _ _ _ _ => trivial), by rw [hU]; exact hZc.warm hW⟩⟩ rfl rfl hl.1 rfl (lv_room (Nat.le_of_ble_eq_true rfl)) dX10_cycleIn_15 ⟨Nat.le_of_ble_eq_true rfl, Nat.le_of_ble_eq_true rfl⟩) hS (fun q _ h => hFc q h) hFc (fun r_3 u t H1 locs ht hvm hw hB hz1 hk1 hS => ?_)
  obtain ⟨hP1, hK1, hD1⟩ := hB
  rw [ht] at hP1
  have hK1 := va_K.moved hvm.symm hK1
  obtain ⟨hP, hD⟩ := va_join (wr := [(l1, .inr (1, [.int 0, .ref a0, .int 0]))]) (w1 := [(m0, .inr (12, [.int 1, .ref l1, .ref l2, .int 0, .int 0, .int 0, .long 0]))]) hP hD [0] [1] rfl rfl (by decide) (by decide) hk1 hFc hP1 hD1
  have hK := (hK.sub (tys' := []) [] rfl).app hK1
  generalize H1 = H at hP hS ⊢
  have hP : va_P (dC, dI) vwCl [(l1, .inr (1, [.int 0, .ref a0, .int 0])), (m0, .inr (12, [.int 1, .ref l1, .ref l2, .int 0, .int 0, .int 0, .long 0]))] H := hP
  have hD : va_D A [(l1, .inr (1, [.int 0, .ref a0, .int 0])), (m0, .inr (12, [.int 1, .ref l1, .ref l2, .int 0, .int 0, .int 0, .long 0]))] := hD
  have hK : va_K (dC, dI) vwCl [] s := hK
  refine W.widen (k := 0) (n := 0) (Nat.le_of_ble_eq_true rfl) (Nat.le_of_ble_eq_true rfl) ?_
  obtain rfl : r_3 = 0 := hw
  have hP9 := hP.sub (ws' := [(m0, .inr (12, [.int 1, .ref l1, .ref l2, .int 0, .int 0, .int 0, .long 0]))]) [1] rfl
  have hD9 := hD.sub (ws' := [(m0, .inr (12, [.int 1, .ref l1, .ref l2, .int 0, .int 0, .int 0, .long 0]))]) [1] (by decide) rfl
  have hK9 := hK.sub (tys' := []) [] rfl
  refine W.widen (k := 0) (n := 0) (Nat.le_of_ble_eq_true rfl) (Nat.le_of_ble_eq_true rfl) ?_
  exact W.iret (v := 0) hx hb hr (fun t ht hW => ⟨⟨0, (), rfl, rfl, ⟨by rw [ht]; exact hP9, va_K.moved hW.alike hK9, hD9⟩⟩, hS.F ht⟩) hS.2.2 dX10_cycleIn_18

def zs_c_X10_backIn : List Cond := .code yX10_backIn cX10_backIn 2 (some .int) :: (([.fieldLink RX10 19 "HaltingaleModel" "thrown" "I", .code yX10_isMachine cX10_isMachine 2 (some .boolean), .fieldLink RX10 10 "HaltingaleModel" "machines" "Ljava/util/ArrayList;", .code yJx4a65c_size_8abf5 cJx4a65c_size_8abf5 1 (some .int), .fieldLink RJx4a65c 48 "java/util/ArrayList" "size" "I", .methodLink RX10 23 yJx4a65c_size_8abf5, .instanceMethod yJx4a65c_size_8abf5, .initialized RJx4a65c, .selects RJx4a65c yJx4a65c_size_8abf5 yJx4a65c_size_8abf5, .code yX10_is cX10_is 3 (some .boolean), .methodLink RX10 27 yX10_is, .static yX10_is, .initialized RX10, .methodLink RX10 44 yX10_isMachine, .instanceMethod yX10_isMachine, .selects RX10 yX10_isMachine yX10_isMachine, .code yX10_refuse cX10_refuse 2 (some .int), .methodLink RX10 31 yX10_refuse, .instanceMethod yX10_refuse, .selects RX10 yX10_refuse yX10_refuse] : List Cond) ++ wsX100 ++ wsJx4a65c0)
set_option maxHeartbeats 4000000 in
set_option maxRecDepth 100000 in
/-- backIn of no machine -/
theorem c_X10_backIn (l : Launch) (hnt : l.stackTraces = false) (dC : Nat → ClassId) (dI : Nat → Nat → Nat) (a0 : Nat) (m0 : Nat) (l1 : Nat) (l2 : Nat) (p0 : Int32) (sz : Nat)  : Met l yX10_backIn zs_c_X10_backIn ({ frames := 2, cells := 0, slots := 0, locals := 43 }) (va_Pc [.ref m0, .int p0] (fun U => U.heap.size = sz ∧ va_P (dC, dI) vwCl [(m0, .inr (12, [.int 0, .ref l1, .ref l2, .int 0, .int 0, .int 0, .long 0])), (l1, .inr (1, [.int 0, .ref a0, .int 0]))] U.heap ∧ va_K (dC, dI) vwCl [] U ∧ va_D (fun _ => True) [(m0, .inr (12, [.int 0, .ref l1, .ref l2, .int 0, .int 0, .int 0, .long 0])), (l1, .inr (1, [.int 0, .ref a0, .int 0]))] ∧ zB a0 (va_A [(m0, .inr (12, [.int 0, .ref l1, .ref l2, .int 0, .int 0, .int 0, .long 0])), (l1, .inr (1, [.int 0, .ref a0, .int 0]))] sz) U U.heap)) (va_Qi (fun (r : Int32) (_ : Unit) => r = 0) (fun _ t => va_P (dC, dI) vwCl [(m0, .inr (12, [.int 1, .ref l1, .ref l2, .int 0, .int 0, .int 0, .long 0]))] t.heap ∧ va_K (dC, dI) vwCl [] t ∧ va_D (va_A [(m0, .inr (12, [.int 0, .ref l1, .ref l2, .int 0, .int 0, .int 0, .long 0])), (l1, .inr (1, [.int 0, .ref a0, .int 0]))] sz) [(m0, .inr (12, [.int 1, .ref l1, .ref l2, .int 0, .int 0, .int 0, .long 0]))]) (va_A [(m0, .inr (12, [.int 0, .ref l1, .ref l2, .int 0, .int 0, .int 0, .long 0])), (l1, .inr (1, [.int 0, .ref a0, .int 0]))] sz)) 0 0 (va_A [(m0, .inr (12, [.int 0, .ref l1, .ref l2, .int 0, .int 0, .int 0, .long 0])), (l1, .inr (1, [.int 0, .ref a0, .int 0]))] sz) := by
  refine Met.ofW (cc := cX10_backIn) (maxL := 2) (ret := (some .int)) (by decide) rfl ?_
  intro p e s m args below meth c s₁ B hml hv
  obtain ⟨rfl, hsz, hP, hK, hD0, hZ⟩ := hv
  have hx := B.exec
  have hb := B.bytes
  have hr := B.returns
  have hts := atoms_spec (ws := zs_c_X10_backIn) B.pre
  have hown : s.vm.findClass RX10 = some m.cls := findClass_of_methodNamed B.named
  have hlocks := B.notSynchronized
  have hiX10 : ∀ w ∈ wsX100, w ∈ zs_c_X10_backIn := by decide +kernel
  subst hsz
  have hD := hD0.self (sz := s.heap.size)
  generalize hAe : va_A [(m0, .inr (12, [.int 0, .ref l1, .ref l2, .int 0, .int 0, .int 0, .long 0])), (l1, .inr (1, [.int 0, .ref a0, .int 0]))] s.heap.size = A at hD hZ ⊢
  have hA : ∀ q : Nat, s.heap.size ≤ q → A q := fun q h => by rw [← hAe]; exact Or.inr h
  have hS : va_S A s.heap s.heap [] := va_S.rf
  have hl := lv_entry ([.ref m0, .int p0]) (n := 2) (Nat.le_of_ble_eq_true rfl)
  rw [lg_entry_eq]
  generalize (lg_sl ([.ref m0, .int p0]) ++ List.replicate (2 - (lg_sl ([.ref m0, .int p0])).length) Slot.unset).toArray = ls at hl ⊢
  have hl : lv_has ls 2 [(0, .ref m0), (1, .int p0)] := hl
  refine lv_aload_n hx hb dX10_backIn_0 rfl (lv_at hl 0 rfl) ?_
  refine lv_iconst (v := 0) hx hb dX10_backIn_1 (by decide) ?_
  refine va_put (D := (dC, dI)) (ci := 12) (v := .int 0) (ty := .int) (C := RX10) (T := TX10) (N := 7) hx hb hts hiX10 tyX10 tyX10_ok nmX10 hown hK hP hD hS 0 rfl rfl 0 (by decide) (hts (.fieldLink RX10 19 "HaltingaleModel" "thrown" "I") (by decide +kernel)) (fun _ h9 => h9) rfl (by decide +kernel) rfl rfl (Nat.le_of_ble_eq_true rfl) dX10_backIn_2 (fun H locs hP hD hS => ?_)
  have hP : va_P (dC, dI) vwCl [(m0, .inr (12, [.int 0, .ref l1, .ref l2, .int 0, .int 0, .int 0, .long 0])), (l1, .inr (1, [.int 0, .ref a0, .int 0]))] H := hP
  have hD : va_D A [(m0, .inr (12, [.int 0, .ref l1, .ref l2, .int 0, .int 0, .int 0, .long 0])), (l1, .inr (1, [.int 0, .ref a0, .int 0]))] := hD
  refine lv_aload_n hx hb dX10_backIn_5 rfl (lv_at hl 0 rfl) ?_
  refine lv_iload_n hx hb dX10_backIn_6 rfl (lv_at hl 1 rfl) ?_
  have hPc := hP.sub (ws' := [(m0, .inr (12, [.int 0, .ref l1, .ref l2, .int 0, .int 0, .int 0, .long 0])), (l1, .inr (1, [.int 0, .ref a0, .int 0]))]) [0, 1] rfl
  have hDc := hD.sub (ws' := [(m0, .inr (12, [.int 0, .ref l1, .ref l2, .int 0, .int 0, .int 0, .long 0])), (l1, .inr (1, [.int 0, .ref a0, .int 0]))]) [0, 1] (by decide) rfl
  have hKc := hK.sub (tys' := []) [] rfl
  have hFc := va_free (wc := [(m0, .inr (12, [.int 0, .ref l1, .ref l2, .int 0, .int 0, .int 0, .long 0])), (l1, .inr (1, [.int 0, .ref a0, .int 0]))]) hD hS hA [0, 1] rfl
  have hZc := ((hZ.kept hS.2.1).narrow hFc)
  refine va_calli (va_runV (As := [.int p0]) (rest := []) ⟨hx, hb, hml, hown, hts⟩ (c_X10_isMachine l hnt dC dI a0 m0 l1 l2 p0 H.size ) (cwV 1 hts (goodIn_of _ (by decide +kernel)) rfl rfl rfl (by decide +kernel) ⟨Nat.le_of_ble_eq_true rfl, Nat.le_of_ble_eq_true rfl⟩) ⟨fun a U g mk q => by obtain ⟨q0, q1, qP, qK, qD, qZ⟩ := q; exact ⟨q0, q1, qP, va_K.moved (u := U) (U := U.calling g mk a) (Vm.Alike.refl U.vm) qK, qD, qZ.call⟩, va_recv hKc hPc (ci := 12) (q0 := 0) rfl rfl, fun U hU hW => ⟨rfl, by rw [hU], by rw [hU]; exact hPc, va_K.moved hW.alike hKc, hDc.weaken (fun _ _ _ _ => trivial), by rw [hU]; exact hZc.warm hW⟩⟩ rfl rfl hl.1 rfl (lv_room (Nat.le_of_ble_eq_true rfl)) dX10_backIn_7 ⟨Nat.le_of_ble_eq_true rfl, Nat.le_of_ble_eq_true rfl⟩) hS (fun q _ h => hFc q h) hFc (fun r_1 u t H1 locs ht hvm hw hB hz1 hk1 hS => ?_)
  obtain ⟨hP1, hK1, hD1⟩ := hB
  rw [ht] at hP1
  have hK1 := va_K.moved hvm.symm hK1
  obtain ⟨hP, hD⟩ := va_join (wr := []) (w1 := [(m0, .inr (12, [.int 0, .ref l1, .ref l2, .int 0, .int 0, .int 0, .long 0])), (l1, .inr (1, [.int 0, .ref a0, .int 0]))]) hP hD [0, 1] [] rfl rfl (by decide) (by decide) hk1 hFc hP1 hD1
  have hK := (hK.sub (tys' := []) [] rfl).app hK1
  generalize H1 = H at hP hS ⊢
  have hP : va_P (dC, dI) vwCl [(m0, .inr (12, [.int 0, .ref l1, .ref l2, .int 0, .int 0, .int 0, .long 0])), (l1, .inr (1, [.int 0, .ref a0, .int 0]))] H := hP
  have hD : va_D A [(m0, .inr (12, [.int 0, .ref l1, .ref l2, .int 0, .int 0, .int 0, .long 0])), (l1, .inr (1, [.int 0, .ref a0, .int 0]))] := hD
  have hK : va_K (dC, dI) vwCl [] s := hK
  refine W.widen (k := 0) (n := 0) (Nat.le_of_ble_eq_true rfl) (Nat.le_of_ble_eq_true rfl) ?_
  obtain rfl : r_1 = 0 := hw
  refine lv_if_eq (tgt := 30) hx hb dX10_backIn_10 (by decide) (fun c_2 => ?_) (fun c_2 => ?_)
  rotate_left
  · (first | exact absurd c_2 (by decide) | exact absurd (by decide) c_2)
  refine lv_aload_n hx hb dX10_backIn_30 rfl (lv_at hl 0 rfl) ?_
  refine lv_iconst (v := 1) hx hb dX10_backIn_31 (by decide) ?_
  have hPc := hP.sub (ws' := [(m0, .inr (12, [.int 0, .ref l1, .ref l2, .int 0, .int 0, .int 0, .long 0]))]) [0] rfl
  have hDc := hD.sub (ws' := [(m0, .inr (12, [.int 0, .ref l1, .ref l2, .int 0, .int 0, .int 0, .long 0]))]) [0] (by decide) rfl
  have hKc := hK.sub (tys' := []) [] rfl
  have hFc := va_free (wc := [(m0, .inr (12, [.int 0, .ref l1, .ref l2, .int 0, .int 0, .int 0, .long 0]))]) hD hS hA [0] rfl
  have hZc := ((hZ.kept hS.2.1).narrow hFc)
  refine va_calli (va_runV (As := [.int 1]) (rest := []) ⟨hx, hb, hml, hown, hts⟩ (c_X10_refuse l hnt dC dI a0 m0 l1 l2 1 H.size ) (cwV 1 hts (goodIn_of _ (by decide +kernel)) rfl rfl rfl (by decide +kernel) ⟨Nat.le_of_ble_eq_true rfl, Nat.le_of_ble_eq_true rfl⟩) ⟨fun a U g mk q => by obtain ⟨q0, q1, qP, qK, qD, qZ⟩ := q; exact ⟨q0, q1, qP, va_K.moved (u := U) (U := U.calling g mk a) (Vm.Alike.refl U.vm) qK, qD, qZ.call⟩, va_recv hKc hPc (ci := 12) (q0 := 0) rfl rfl, fun U hU hW => ⟨rfl, by rw [hU], by rw [hU]; exact hPc, va_K.moved hW.alike hKc, hDc.weaken (fun _ _ _ _ => trivial), by rw [hU]; exact hZc.warm hW⟩⟩ rfl rfl hl.1 rfl (lv_room (Nat.le_of_ble_eq_true rfl)) dX10_backIn_32 ⟨Nat.le_of_ble_eq_true rfl, Nat.le_of_ble_eq_true rfl⟩) hS (fun q _ h => hFc q h) hFc (fun r_3 u t H1 locs ht hvm hw hB hz1 hk1 hS => ?_)
  obtain ⟨hP1, hK1, hD1⟩ := hB
  rw [ht] at hP1
  have hK1 := va_K.moved hvm.symm hK1
  obtain ⟨hP, hD⟩ := va_join (wr := [(l1, .inr (1, [.int 0, .ref a0, .int 0]))]) (w1 := [(m0, .inr (12, [.int 1, .ref l1, .ref l2, .int 0, .int 0, .int 0, .long 0]))]) hP hD [0] [1] rfl rfl (by decide) (by decide) hk1 hFc hP1 hD1
  have hK := (hK.sub (tys' := []) [] rfl).app hK1
  generalize H1 = H at hP hS ⊢
  have hP : va_P (dC, dI) vwCl [(l1, .inr (1, [.int 0, .ref a0, .int 0])), (m0, .inr (12, [.int 1, .ref l1, .ref l2, .int 0, .int 0, .int 0, .long 0]))] H := hP
  have hD : va_D A [(l1, .inr (1, [.int 0, .ref a0, .int 0])), (m0, .inr (12, [.int 1, .ref l1, .ref l2, .int 0, .int 0, .int 0, .long 0]))] := hD
  have hK : va_K (dC, dI) vwCl [] s := hK
  refine W.widen (k := 0) (n := 0) (Nat.le_of_ble_eq_true rfl) (Nat.le_of_ble_eq_true rfl) ?_
  obtain rfl : r_3 = 0 := hw
  have hP9 := hP.sub (ws' := [(m0, .inr (12, [.int 1, .ref l1, .ref l2, .int 0, .int 0, .int 0, .long 0]))]) [1] rfl
  have hD9 := hD.sub (ws' := [(m0, .inr (12, [.int 1, .ref l1, .ref l2, .int 0, .int 0, .int 0, .long 0]))]) [1] (by decide) rfl
  have hK9 := hK.sub (tys' := []) [] rfl
  refine W.widen (k := 0) (n := 0) (Nat.le_of_ble_eq_true rfl) (Nat.le_of_ble_eq_true rfl) ?_
  exact W.iret (v := 0) hx hb hr (fun t ht hW => ⟨⟨0, (), rfl, rfl, ⟨by rw [ht]; exact hP9, va_K.moved hW.alike hK9, hD9⟩⟩, hS.F ht⟩) hS.2.2 dX10_backIn_35

def zs_c_X10_gramIn : List Cond := .code yX10_gramIn cX10_gramIn 2 (some .int) :: (([.fieldLink RX10 19 "HaltingaleModel" "thrown" "I", .code yX10_isMachine cX10_isMachine 2 (some .boolean), .fieldLink RX10 10 "HaltingaleModel" "machines" "Ljava/util/ArrayList;", .code yJx4a65c_size_8abf5 cJx4a65c_size_8abf5 1 (some .int), .fieldLink RJx4a65c 48 "java/util/ArrayList" "size" "I", .methodLink RX10 23 yJx4a65c_size_8abf5, .instanceMethod yJx4a65c_size_8abf5, .initialized RJx4a65c, .selects RJx4a65c yJx4a65c_size_8abf5 yJx4a65c_size_8abf5, .code yX10_is cX10_is 3 (some .boolean), .methodLink RX10 27 yX10_is, .static yX10_is, .initialized RX10, .methodLink RX10 44 yX10_isMachine, .instanceMethod yX10_isMachine, .selects RX10 yX10_isMachine yX10_isMachine, .code yX10_refuse cX10_refuse 2 (some .int), .methodLink RX10 31 yX10_refuse, .instanceMethod yX10_refuse, .selects RX10 yX10_refuse yX10_refuse] : List Cond) ++ wsX100 ++ wsJx4a65c0)
set_option maxHeartbeats 4000000 in
set_option maxRecDepth 100000 in
/-- gramIn of no machine -/
theorem c_X10_gramIn (l : Launch) (hnt : l.stackTraces = false) (dC : Nat → ClassId) (dI : Nat → Nat → Nat) (a0 : Nat) (m0 : Nat) (l1 : Nat) (l2 : Nat) (p0 : Int32) (sz : Nat)  : Met l yX10_gramIn zs_c_X10_gramIn ({ frames := 2, cells := 0, slots := 0, locals := 43 }) (va_Pc [.ref m0, .int p0] (fun U => U.heap.size = sz ∧ va_P (dC, dI) vwCl [(m0, .inr (12, [.int 0, .ref l1, .ref l2, .int 0, .int 0, .int 0, .long 0])), (l1, .inr (1, [.int 0, .ref a0, .int 0]))] U.heap ∧ va_K (dC, dI) vwCl [] U ∧ va_D (fun _ => True) [(m0, .inr (12, [.int 0, .ref l1, .ref l2, .int 0, .int 0, .int 0, .long 0])), (l1, .inr (1, [.int 0, .ref a0, .int 0]))] ∧ zB a0 (va_A [(m0, .inr (12, [.int 0, .ref l1, .ref l2, .int 0, .int 0, .int 0, .long 0])), (l1, .inr (1, [.int 0, .ref a0, .int 0]))] sz) U U.heap)) (va_Qi (fun (r : Int32) (_ : Unit) => r = 0) (fun _ t => va_P (dC, dI) vwCl [(m0, .inr (12, [.int 1, .ref l1, .ref l2, .int 0, .int 0, .int 0, .long 0]))] t.heap ∧ va_K (dC, dI) vwCl [] t ∧ va_D (va_A [(m0, .inr (12, [.int 0, .ref l1, .ref l2, .int 0, .int 0, .int 0, .long 0])), (l1, .inr (1, [.int 0, .ref a0, .int 0]))] sz) [(m0, .inr (12, [.int 1, .ref l1, .ref l2, .int 0, .int 0, .int 0, .long 0]))]) (va_A [(m0, .inr (12, [.int 0, .ref l1, .ref l2, .int 0, .int 0, .int 0, .long 0])), (l1, .inr (1, [.int 0, .ref a0, .int 0]))] sz)) 0 0 (va_A [(m0, .inr (12, [.int 0, .ref l1, .ref l2, .int 0, .int 0, .int 0, .long 0])), (l1, .inr (1, [.int 0, .ref a0, .int 0]))] sz) := by
  refine Met.ofW (cc := cX10_gramIn) (maxL := 2) (ret := (some .int)) (by decide) rfl ?_
  intro p e s m args below meth c s₁ B hml hv
  obtain ⟨rfl, hsz, hP, hK, hD0, hZ⟩ := hv
  have hx := B.exec
  have hb := B.bytes
  have hr := B.returns
  have hts := atoms_spec (ws := zs_c_X10_gramIn) B.pre
  have hown : s.vm.findClass RX10 = some m.cls := findClass_of_methodNamed B.named
  have hlocks := B.notSynchronized
  have hiX10 : ∀ w ∈ wsX100, w ∈ zs_c_X10_gramIn := by decide +kernel
  subst hsz
  have hD := hD0.self (sz := s.heap.size)
  generalize hAe : va_A [(m0, .inr (12, [.int 0, .ref l1, .ref l2, .int 0, .int 0, .int 0, .long 0])), (l1, .inr (1, [.int 0, .ref a0, .int 0]))] s.heap.size = A at hD hZ ⊢
  have hA : ∀ q : Nat, s.heap.size ≤ q → A q := fun q h => by rw [← hAe]; exact Or.inr h
  have hS : va_S A s.heap s.heap [] := va_S.rf
  have hl := lv_entry ([.ref m0, .int p0]) (n := 2) (Nat.le_of_ble_eq_true rfl)
  rw [lg_entry_eq]
  generalize (lg_sl ([.ref m0, .int p0]) ++ List.replicate (2 - (lg_sl ([.ref m0, .int p0])).length) Slot.unset).toArray = ls at hl ⊢
  have hl : lv_has ls 2 [(0, .ref m0), (1, .int p0)] := hl
  refine lv_aload_n hx hb dX10_gramIn_0 rfl (lv_at hl 0 rfl) ?_
  refine lv_iconst (v := 0) hx hb dX10_gramIn_1 (by decide) ?_
  refine va_put (D := (dC, dI)) (ci := 12) (v := .int 0) (ty := .int) (C := RX10) (T := TX10) (N := 7) hx hb hts hiX10 tyX10 tyX10_ok nmX10 hown hK hP hD hS 0 rfl rfl 0 (by decide) (hts (.fieldLink RX10 19 "HaltingaleModel" "thrown" "I") (by decide +kernel)) (fun _ h9 => h9) rfl (by decide +kernel) rfl rfl (Nat.le_of_ble_eq_true rfl) dX10_gramIn_2 (fun H locs hP hD hS => ?_)
  have hP : va_P (dC, dI) vwCl [(m0, .inr (12, [.int 0, .ref l1, .ref l2, .int 0, .int 0, .int 0, .long 0])), (l1, .inr (1, [.int 0, .ref a0, .int 0]))] H := hP
  have hD : va_D A [(m0, .inr (12, [.int 0, .ref l1, .ref l2, .int 0, .int 0, .int 0, .long 0])), (l1, .inr (1, [.int 0, .ref a0, .int 0]))] := hD
  refine lv_aload_n hx hb dX10_gramIn_5 rfl (lv_at hl 0 rfl) ?_
  refine lv_iload_n hx hb dX10_gramIn_6 rfl (lv_at hl 1 rfl) ?_
  have hPc := hP.sub (ws' := [(m0, .inr (12, [.int 0, .ref l1, .ref l2, .int 0, .int 0, .int 0, .long 0])), (l1, .inr (1, [.int 0, .ref a0, .int 0]))]) [0, 1] rfl
  have hDc := hD.sub (ws' := [(m0, .inr (12, [.int 0, .ref l1, .ref l2, .int 0, .int 0, .int 0, .long 0])), (l1, .inr (1, [.int 0, .ref a0, .int 0]))]) [0, 1] (by decide) rfl
  have hKc := hK.sub (tys' := []) [] rfl
  have hFc := va_free (wc := [(m0, .inr (12, [.int 0, .ref l1, .ref l2, .int 0, .int 0, .int 0, .long 0])), (l1, .inr (1, [.int 0, .ref a0, .int 0]))]) hD hS hA [0, 1] rfl
  have hZc := ((hZ.kept hS.2.1).narrow hFc)
  refine va_calli (va_runV (As := [.int p0]) (rest := []) ⟨hx, hb, hml, hown, hts⟩ (c_X10_isMachine l hnt dC dI a0 m0 l1 l2 p0 H.size ) (cwV 1 hts (goodIn_of _ (by decide +kernel)) rfl rfl rfl (by decide +kernel) ⟨Nat.le_of_ble_eq_true rfl, Nat.le_of_ble_eq_true rfl⟩) ⟨fun a U g mk q => by obtain ⟨q0, q1, qP, qK, qD, qZ⟩ := q; exact ⟨q0, q1, qP, va_K.moved (u := U) (U := U.calling g mk a) (Vm.Alike.refl U.vm) qK, qD, qZ.call⟩, va_recv hKc hPc (ci := 12) (q0 := 0) rfl rfl, fun U hU hW => ⟨rfl, by rw [hU], by rw [hU]; exact hPc, va_K.moved hW.alike hKc, hDc.weaken (fun _ _ _ _ => trivial), by rw [hU]; exact hZc.warm hW⟩⟩ rfl rfl hl.1 rfl (lv_room (Nat.le_of_ble_eq_true rfl)) dX10_gramIn_7 ⟨Nat.le_of_ble_eq_true rfl, Nat.le_of_ble_eq_true rfl⟩) hS (fun q _ h => hFc q h) hFc (fun r_1 u t H1 locs ht hvm hw hB hz1 hk1 hS => ?_)
  obtain ⟨hP1, hK1, hD1⟩ := hB
  rw [ht] at hP1
  have hK1 := va_K.moved hvm.symm hK1
  obtain ⟨hP, hD⟩ := va_join (wr := []) (w1 := [(m0, .inr (12, [.int 0, .ref l1, .ref l2, .int 0, .int 0, .int 0, .long 0])), (l1, .inr (1, [.int 0, .ref a0, .int 0]))]) hP hD [0, 1] [] rfl rfl (by decide) (by decide) hk1 hFc hP1 hD1
  have hK := (hK.sub (tys' := []) [] rfl).app hK1
  generalize H1 = H at hP hS ⊢
  have hP : va_P (dC, dI) vwCl [(m0, .inr (12, [.int 0, .ref l1, .ref l2, .int 0, .int 0, .int 0, .long 0])), (l1, .inr (1, [.int 0, .ref a0, .int 0]))] H := hP
  have hD : va_D A [(m0, .inr (12, [.int 0, .ref l1, .ref l2, .int 0, .int 0, .int 0, .long 0])), (l1, .inr (1, [.int 0, .ref a0, .int 0]))] := hD
  have hK : va_K (dC, dI) vwCl [] s := hK
  refine W.widen (k := 0) (n := 0) (Nat.le_of_ble_eq_true rfl) (Nat.le_of_ble_eq_true rfl) ?_
  obtain rfl : r_1 = 0 := hw
  refine lv_if_eq (tgt := 30) hx hb dX10_gramIn_10 (by decide) (fun c_2 => ?_) (fun c_2 => ?_)
  rotate_left
  · (first | exact absurd c_2 (by decide) | exact absurd (by decide) c_2)
  refine lv_aload_n hx hb dX10_gramIn_30 rfl (lv_at hl 0 rfl) ?_
  refine lv_iconst (v := 1) hx hb dX10_gramIn_31 (by decide) ?_
  have hPc := hP.sub (ws' := [(m0, .inr (12, [.int 0, .ref l1, .ref l2, .int 0, .int 0, .int 0, .long 0]))]) [0] rfl
  have hDc := hD.sub (ws' := [(m0, .inr (12, [.int 0, .ref l1, .ref l2, .int 0, .int 0, .int 0, .long 0]))]) [0] (by decide) rfl
  have hKc := hK.sub (tys' := []) [] rfl
  have hFc := va_free (wc := [(m0, .inr (12, [.int 0, .ref l1, .ref l2, .int 0, .int 0, .int 0, .long 0]))]) hD hS hA [0] rfl
  have hZc := ((hZ.kept hS.2.1).narrow hFc)
  refine va_calli (va_runV (As := [.int 1]) (rest := []) ⟨hx, hb, hml, hown, hts⟩ (c_X10_refuse l hnt dC dI a0 m0 l1 l2 1 H.size ) (cwV 1 hts (goodIn_of _ (by decide +kernel)) rfl rfl rfl (by decide +kernel) ⟨Nat.le_of_ble_eq_true rfl, Nat.le_of_ble_eq_true rfl⟩) ⟨fun a U g mk q => by obtain ⟨q0, q1, qP, qK, qD, qZ⟩ := q; exact ⟨q0, q1, qP, va_K.moved (u := U) (U := U.calling g mk a) (Vm.Alike.refl U.vm) qK, qD, qZ.call⟩, va_recv hKc hPc (ci := 12) (q0 := 0) rfl rfl, fun U hU hW => ⟨rfl, by rw [hU], by rw [hU]; exact hPc, va_K.moved hW.alike hKc, hDc.weaken (fun _ _ _ _ => trivial), by rw [hU]; exact hZc.warm hW⟩⟩ rfl rfl hl.1 rfl (lv_room (Nat.le_of_ble_eq_true rfl)) dX10_gramIn_32 ⟨Nat.le_of_ble_eq_true rfl, Nat.le_of_ble_eq_true rfl⟩) hS (fun q _ h => hFc q h) hFc (fun r_3 u t H1 locs ht hvm hw hB hz1 hk1 hS => ?_)
  obtain ⟨hP1, hK1, hD1⟩ := hB
  rw [ht] at hP1
  have hK1 := va_K.moved hvm.symm hK1
  obtain ⟨hP, hD⟩ := va_join (wr := [(l1, .inr (1, [.int 0, .ref a0, .int 0]))]) (w1 := [(m0, .inr (12, [.int 1, .ref l1, .ref l2, .int 0, .int 0, .int 0, .long 0]))]) hP hD [0] [1] rfl rfl (by decide) (by decide) hk1 hFc hP1 hD1
  have hK := (hK.sub (tys' := []) [] rfl).app hK1
  generalize H1 = H at hP hS ⊢
  have hP : va_P (dC, dI) vwCl [(l1, .inr (1, [.int 0, .ref a0, .int 0])), (m0, .inr (12, [.int 1, .ref l1, .ref l2, .int 0, .int 0, .int 0, .long 0]))] H := hP
  have hD : va_D A [(l1, .inr (1, [.int 0, .ref a0, .int 0])), (m0, .inr (12, [.int 1, .ref l1, .ref l2, .int 0, .int 0, .int 0, .long 0]))] := hD
  have hK : va_K (dC, dI) vwCl [] s := hK
  refine W.widen (k := 0) (n := 0) (Nat.le_of_ble_eq_true rfl) (Nat.le_of_ble_eq_true rfl) ?_
  obtain rfl : r_3 = 0 := hw
  have hP9 := hP.sub (ws' := [(m0, .inr (12, [.int 1, .ref l1, .ref l2, .int 0, .int 0, .int 0, .long 0]))]) [1] rfl
  have hD9 := hD.sub (ws' := [(m0, .inr (12, [.int 1, .ref l1, .ref l2, .int 0, .int 0, .int 0, .long 0]))]) [1] (by decide) rfl
  have hK9 := hK.sub (tys' := []) [] rfl
  refine W.widen (k := 0) (n := 0) (Nat.le_of_ble_eq_true rfl) (Nat.le_of_ble_eq_true rfl) ?_
  exact W.iret (v := 0) hx hb hr (fun t ht hW => ⟨⟨0, (), rfl, rfl, ⟨by rw [ht]; exact hP9, va_K.moved hW.alike hK9, hD9⟩⟩, hS.F ht⟩) hS.2.2 dX10_gramIn_35

def zs_c_X10_decide : List Cond := .code yX10_decide_ cX10_decide_ 7 (some .int) :: (([.fieldLink RX10 19 "HaltingaleModel" "thrown" "I", .code yX10_isMachine cX10_isMachine 2 (some .boolean), .fieldLink RX10 10 "HaltingaleModel" "machines" "Ljava/util/ArrayList;", .code yJx4a65c_size_8abf5 cJx4a65c_size_8abf5 1 (some .int), .fieldLink RJx4a65c 48 "java/util/ArrayList" "size" "I", .methodLink RX10 23 yJx4a65c_size_8abf5, .instanceMethod yJx4a65c_size_8abf5, .initialized RJx4a65c, .selects RJx4a65c yJx4a65c_size_8abf5 yJx4a65c_size_8abf5, .code yX10_is cX10_is 3 (some .boolean), .methodLink RX10 27 yX10_is, .static yX10_is, .initialized RX10, .methodLink RX10 44 yX10_isMachine, .instanceMethod yX10_isMachine, .selects RX10 yX10_isMachine yX10_isMachine, .code yX10_refuse cX10_refuse 2 (some .int), .methodLink RX10 31 yX10_refuse, .instanceMethod yX10_refuse, .selects RX10 yX10_refuse yX10_refuse] : List Cond) ++ wsX100 ++ wsJx4a65c0)
set_option maxHeartbeats 4000000 in
set_option maxRecDepth 100000 in
/-- decide of no machine -/
theorem c_X10_decide (l : Launch) (hnt : l.stackTraces = false) (dC : Nat → ClassId) (dI : Nat → Nat → Nat) (a0 : Nat) (m0 : Nat) (l1 : Nat) (l2 : Nat) (p0 : Int32) (sz : Nat)  : Met l yX10_decide_ zs_c_X10_decide ({ frames := 2, cells := 0, slots := 0, locals := 43 }) (va_Pc [.ref m0, .int p0] (fun U => U.heap.size = sz ∧ va_P (dC, dI) vwCl [(m0, .inr (12, [.int 0, .ref l1, .ref l2, .int 0, .int 0, .int 0, .long 0])), (l1, .inr (1, [.int 0, .ref a0, .int 0]))] U.heap ∧ va_K (dC, dI) vwCl [] U ∧ va_D (fun _ => True) [(m0, .inr (12, [.int 0, .ref l1, .ref l2, .int 0, .int 0, .int 0, .long 0])), (l1, .inr (1, [.int 0, .ref a0, .int 0]))] ∧ zB a0 (va_A [(m0, .inr (12, [.int 0, .ref l1, .ref l2, .int 0, .int 0, .int 0, .long 0])), (l1, .inr (1, [.int 0, .ref a0, .int 0]))] sz) U U.heap)) (va_Qi (fun (r : Int32) (_ : Unit) => r = 0) (fun _ t => va_P (dC, dI) vwCl [(m0, .inr (12, [.int 1, .ref l1, .ref l2, .int 0, .int 0, .int 0, .long 0]))] t.heap ∧ va_K (dC, dI) vwCl [] t ∧ va_D (va_A [(m0, .inr (12, [.int 0, .ref l1, .ref l2, .int 0, .int 0, .int 0, .long 0])), (l1, .inr (1, [.int 0, .ref a0, .int 0]))] sz) [(m0, .inr (12, [.int 1, .ref l1, .ref l2, .int 0, .int 0, .int 0, .long 0]))]) (va_A [(m0, .inr (12, [.int 0, .ref l1, .ref l2, .int 0, .int 0, .int 0, .long 0])), (l1, .inr (1, [.int 0, .ref a0, .int 0]))] sz)) 0 0 (va_A [(m0, .inr (12, [.int 0, .ref l1, .ref l2, .int 0, .int 0, .int 0, .long 0])), (l1, .inr (1, [.int 0, .ref a0, .int 0]))] sz) := by
  refine Met.ofW (cc := cX10_decide_) (maxL := 7) (ret := (some .int)) (by decide) rfl ?_
  intro p e s m args below meth c s₁ B hml hv
  obtain ⟨rfl, hsz, hP, hK, hD0, hZ⟩ := hv
  have hx := B.exec
  have hb := B.bytes
  have hr := B.returns
  have hts := atoms_spec (ws := zs_c_X10_decide) B.pre
  have hown : s.vm.findClass RX10 = some m.cls := findClass_of_methodNamed B.named
  have hlocks := B.notSynchronized
  have hiX10 : ∀ w ∈ wsX100, w ∈ zs_c_X10_decide := by decide +kernel
  subst hsz
  have hD := hD0.self (sz := s.heap.size)
  generalize hAe : va_A [(m0, .inr (12, [.int 0, .ref l1, .ref l2, .int 0, .int 0, .int 0, .long 0])), (l1, .inr (1, [.int 0, .ref a0, .int 0]))] s.heap.size = A at hD hZ ⊢
  have hA : ∀ q : Nat, s.heap.size ≤ q → A q := fun q h => by rw [← hAe]; exact Or.inr h
  have hS : va_S A s.heap s.heap [] := va_S.rf
  have hl := lv_entry ([.ref m0, .int p0]) (n := 7) (Nat.le_of_ble_eq_true rfl)
  rw [lg_entry_eq]
  generalize (lg_sl ([.ref m0, .int p0]) ++ List.replicate (7 - (lg_sl ([.ref m0, .int p0])).length) Slot.unset).toArray = ls at hl ⊢
  have hl : lv_has ls 7 [(0, .ref m0), (1, .int p0)] := hl
  refine lv_aload_n hx hb dX10_decide__0 rfl (lv_at hl 0 rfl) ?_
  refine lv_iconst (v := 0) hx hb dX10_decide__1 (by decide) ?_
  refine va_put (D := (dC, dI)) (ci := 12) (v := .int 0) (ty := .int) (C := RX10) (T := TX10) (N := 7) hx hb hts hiX10 tyX10 tyX10_ok nmX10 hown hK hP hD hS 0 rfl rfl 0 (by decide) (hts (.fieldLink RX10 19 "HaltingaleModel" "thrown" "I") (by decide +kernel)) (fun _ h9 => h9) rfl (by decide +kernel) rfl rfl (Nat.le_of_ble_eq_true rfl) dX10_decide__2 (fun H locs hP hD hS => ?_)
  have hP : va_P (dC, dI) vwCl [(m0, .inr (12, [.int 0, .ref l1, .ref l2, .int 0, .int 0, .int 0, .long 0])), (l1, .inr (1, [.int 0, .ref a0, .int 0]))] H := hP
  have hD : va_D A [(m0, .inr (12, [.int 0, .ref l1, .ref l2, .int 0, .int 0, .int 0, .long 0])), (l1, .inr (1, [.int 0, .ref a0, .int 0]))] := hD
  refine lv_aload_n hx hb dX10_decide__5 rfl (lv_at hl 0 rfl) ?_
  refine lv_iload_n hx hb dX10_decide__6 rfl (lv_at hl 1 rfl) ?_
  have hPc := hP.sub (ws' := [(m0, .inr (12, [.int 0, .ref l1, .ref l2, .int 0, .int 0, .int 0, .long 0])), (l1, .inr (1, [.int 0, .ref a0, .int 0]))]) [0, 1] rfl
  have hDc := hD.sub (ws' := [(m0, .inr (12, [.int 0, .ref l1, .ref l2, .int 0, .int 0, .int 0, .long 0])), (l1, .inr (1, [.int 0, .ref a0, .int 0]))]) [0, 1] (by decide) rfl
  have hKc := hK.sub (tys' := []) [] rfl
  have hFc := va_free (wc := [(m0, .inr (12, [.int 0, .ref l1, .ref l2, .int 0, .int 0, .int 0, .long 0])), (l1, .inr (1, [.int 0, .ref a0, .int 0]))]) hD hS hA [0, 1] rfl
  have hZc := ((hZ.kept hS.2.1).narrow hFc)
  refine va_calli (va_runV (As := [.int p0]) (rest := []) ⟨hx, hb, hml, hown, hts⟩ (c_X10_isMachine l hnt dC dI a0 m0 l1 l2 p0 H.size ) (cwV 1 hts (goodIn_of _ (by decide +kernel)) rfl rfl rfl (by decide +kernel) ⟨Nat.le_of_ble_eq_true rfl, Nat.le_of_ble_eq_true rfl⟩) ⟨fun a U g mk q => by obtain ⟨q0, q1, qP, qK, qD, qZ⟩ := q; exact ⟨q0, q1, qP, va_K.moved (u := U) (U := U.calling g mk a) (Vm.Alike.refl U.vm) qK, qD, qZ.call⟩, va_recv hKc hPc (ci := 12) (q0 := 0) rfl rfl, fun U hU hW => ⟨rfl, by rw [hU], by rw [hU]; exact hPc, va_K.moved hW.alike hKc, hDc.weaken (fun _ _ _ _ => trivial), by rw [hU]; exact hZc.warm hW⟩⟩ rfl rfl hl.1 rfl (lv_room (Nat.le_of_ble_eq_true rfl)) dX10_decide__7 ⟨Nat.le_of_ble_eq_true rfl, Nat.le_of_ble_eq_true rfl⟩) hS (fun q _ h => hFc q h) hFc (fun r_1 u t H1 locs ht hvm hw hB hz1 hk1 hS => ?_)
  obtain ⟨hP1, hK1, hD1⟩ := hB
  rw [ht] at hP1
  have hK1 := va_K.moved hvm.symm hK1
  obtain ⟨hP, hD⟩ := va_join (wr := []) (w1 := [(m0, .inr (12, [.int 0, .ref l1, .ref l2, .int 0, .int 0, .int 0, .long 0])), (l1, .inr (1, [.int 0, .ref a0, .int 0]))]) hP hD [0, 1] [] rfl rfl (by decide) (by decide) hk1 hFc hP1 hD1
  have hK := (hK.sub (tys' := []) [] rfl).app hK1
  generalize H1 = H at hP hS ⊢
  have hP : va_P (dC, dI) vwCl [(m0, .inr (12, [.int 0, .ref l1, .ref l2, .int 0, .int 0, .int 0, .long 0])), (l1, .inr (1, [.int 0, .ref a0, .int 0]))] H := hP
  have hD : va_D A [(m0, .inr (12, [.int 0, .ref l1, .ref l2, .int 0, .int 0, .int 0, .long 0])), (l1, .inr (1, [.int 0, .ref a0, .int 0]))] := hD
  have hK : va_K (dC, dI) vwCl [] s := hK
  refine W.widen (k := 0) (n := 0) (Nat.le_of_ble_eq_true rfl) (Nat.le_of_ble_eq_true rfl) ?_
  obtain rfl : r_1 = 0 := hw
  refine lv_if_ne (tgt := 19) hx hb dX10_decide__10 (by decide) (fun c_2 => ?_) (fun c_2 => ?_)
  · (first | exact absurd c_2 (by decide) | exact absurd (by decide) c_2)
  refine lv_aload_n hx hb dX10_decide__13 rfl (lv_at hl 0 rfl) ?_
  refine lv_iconst (v := 1) hx hb dX10_decide__14 (by decide) ?_
  have hPc := hP.sub (ws' := [(m0, .inr (12, [.int 0, .ref l1, .ref l2, .int 0, .int 0, .int 0, .long 0]))]) [0] rfl
  have hDc := hD.sub (ws' := [(m0, .inr (12, [.int 0, .ref l1, .ref l2, .int 0, .int 0, .int 0, .long 0]))]) [0] (by decide) rfl
  have hKc := hK.sub (tys' := []) [] rfl
  have hFc := va_free (wc := [(m0, .inr (12, [.int 0, .ref l1, .ref l2, .int 0, .int 0, .int 0, .long 0]))]) hD hS hA [0] rfl
  have hZc := ((hZ.kept hS.2.1).narrow hFc)
  refine va_calli (va_runV (As := [.int 1]) (rest := []) ⟨hx, hb, hml, hown, hts⟩ (c_X10_refuse l hnt dC dI a0 m0 l1 l2 1 H.size ) (cwV 1 hts (goodIn_of _ (by decide +kernel)) rfl rfl rfl (by decide +kernel) ⟨Nat.le_of_ble_eq_true rfl, Nat.le_of_ble_eq_true rfl⟩) ⟨fun a U g mk q => by obtain ⟨q0, q1, qP, qK, qD, qZ⟩ := q; exact ⟨q0, q1, qP, va_K.moved (u := U) (U := U.calling g mk a) (Vm.Alike.refl U.vm) qK, qD, qZ.call⟩, va_recv hKc hPc (ci := 12) (q0 := 0) rfl rfl, fun U hU hW => ⟨rfl, by rw [hU], by rw [hU]; exact hPc, va_K.moved hW.alike hKc, hDc.weaken (fun _ _ _ _ => trivial), by rw [hU]; exact hZc.warm hW⟩⟩ rfl rfl hl.1 rfl (lv_room (Nat.le_of_ble_eq_true rfl)) dX10_decide__15 ⟨Nat.le_of_ble_eq_true rfl, Nat.le_of_ble_eq_true rfl⟩) hS (fun q _ h => hFc q h) hFc (fun r_3 u t H1 locs ht hvm hw hB hz1 hk1 hS => ?_)
  obtain ⟨hP1, hK1, hD1⟩ := hB
  rw [ht] at hP1
  have hK1 := va_K.moved hvm.symm hK1
  obtain ⟨hP, hD⟩ := va_join (wr := [(l1, .inr (1, [.int 0, .ref a0, .int 0]))]) (w1 := [(m0, .inr (12, [.int 1, .ref l1, .ref l2, .int 0, .int 0, .int 0, .long 0]))]) hP hD [0] [1] rfl rfl (by decide) (by decide) hk1 hFc hP1 hD1
  have hK := (hK.sub (tys' := []) [] rfl).app hK1
  generalize H1 = H at hP hS ⊢
  have hP : va_P (dC, dI) vwCl [(l1, .inr (1, [.int 0, .ref a0, .int 0])), (m0, .inr (12, [.int 1, .ref l1, .ref l2, .int 0, .int 0, .int 0, .long 0]))] H := hP
  have hD : va_D A [(l1, .inr (1, [.int 0, .ref a0, .int 0])), (m0, .inr (12, [.int 1, .ref l1, .ref l2, .int 0, .int 0, .int 0, .long 0]))] := hD
  have hK : va_K (dC, dI) vwCl [] s := hK
  refine W.widen (k := 0) (n := 0) (Nat.le_of_ble_eq_true rfl) (Nat.le_of_ble_eq_true rfl) ?_
  obtain rfl : r_3 = 0 := hw
  have hP9 := hP.sub (ws' := [(m0, .inr (12, [.int 1, .ref l1, .ref l2, .int 0, .int 0, .int 0, .long 0]))]) [1] rfl
  have hD9 := hD.sub (ws' := [(m0, .inr (12, [.int 1, .ref l1, .ref l2, .int 0, .int 0, .int 0, .long 0]))]) [1] (by decide) rfl
  have hK9 := hK.sub (tys' := []) [] rfl
  refine W.widen (k := 0) (n := 0) (Nat.le_of_ble_eq_true rfl) (Nat.le_of_ble_eq_true rfl) ?_
  exact W.iret (v := 0) hx hb hr (fun t ht hW => ⟨⟨0, (), rfl, rfl, ⟨by rw [ht]; exact hP9, va_K.moved hW.alike hK9, hD9⟩⟩, hS.F ht⟩) hS.2.2 dX10_decide__18

def zs_c_X10_tagged : List Cond := .code yX10_tagged cX10_tagged 4 (some .int) :: (([.fieldLink RX10 19 "HaltingaleModel" "thrown" "I", .fieldLink RX10 16 "HaltingaleModel" "tags" "Ljava/util/ArrayList;", .code yJx4a65c_size_8abf5 cJx4a65c_size_8abf5 1 (some .int), .fieldLink RJx4a65c 48 "java/util/ArrayList" "size" "I", .methodLink RX10 23 yJx4a65c_size_8abf5, .instanceMethod yJx4a65c_size_8abf5, .initialized RJx4a65c, .selects RJx4a65c yJx4a65c_size_8abf5 yJx4a65c_size_8abf5, .code yX10_is cX10_is 3 (some .boolean), .methodLink RX10 27 yX10_is, .static yX10_is, .initialized RX10, .code yX10_refuse cX10_refuse 2 (some .int), .methodLink RX10 31 yX10_refuse, .instanceMethod yX10_refuse, .selects RX10 yX10_refuse yX10_refuse] : List Cond) ++ wsX100 ++ wsJx4a65c0)
set_option maxHeartbeats 4000000 in
set_option maxRecDepth 100000 in
/-- tagged of no machine -/
theorem c_X10_tagged (l : Launch) (hnt : l.stackTraces = false) (dC : Nat → ClassId) (dI : Nat → Nat → Nat) (a0 : Nat) (m0 : Nat) (l1 : Nat) (l2 : Nat) (p0 : Int32) (p1 : Int32) (p2 : Int32) (sz : Nat)  : Met l yX10_tagged zs_c_X10_tagged ({ frames := 1, cells := 0, slots := 0, locals := 22 }) (va_Pc [.ref m0, .int p0, .int p1, .int p2] (fun U => U.heap.size = sz ∧ va_P (dC, dI) vwCl [(m0, .inr (12, [.int 0, .ref l1, .ref l2, .int 0, .int 0, .int 0, .long 0])), (l2, .inr (1, [.int 0, .ref a0, .int 0]))] U.heap ∧ va_K (dC, dI) vwCl [] U ∧ va_D (fun _ => True) [(m0, .inr (12, [.int 0, .ref l1, .ref l2, .int 0, .int 0, .int 0, .long 0])), (l2, .inr (1, [.int 0, .ref a0, .int 0]))] ∧ zB a0 (va_A [(m0, .inr (12, [.int 0, .ref l1, .ref l2, .int 0, .int 0, .int 0, .long 0])), (l2, .inr (1, [.int 0, .ref a0, .int 0]))] sz) U U.heap)) (va_Qi (fun (r : Int32) (_ : Unit) => r = 0) (fun _ t => va_P (dC, dI) vwCl [(m0, .inr (12, [.int 1, .ref l1, .ref l2, .int 0, .int 0, .int 0, .long 0]))] t.heap ∧ va_K (dC, dI) vwCl [] t ∧ va_D (va_A [(m0, .inr (12, [.int 0, .ref l1, .ref l2, .int 0, .int 0, .int 0, .long 0])), (l2, .inr (1, [.int 0, .ref a0, .int 0]))] sz) [(m0, .inr (12, [.int 1, .ref l1, .ref l2, .int 0, .int 0, .int 0, .long 0]))]) (va_A [(m0, .inr (12, [.int 0, .ref l1, .ref l2, .int 0, .int 0, .int 0, .long 0])), (l2, .inr (1, [.int 0, .ref a0, .int 0]))] sz)) 0 0 (va_A [(m0, .inr (12, [.int 0, .ref l1, .ref l2, .int 0, .int 0, .int 0, .long 0])), (l2, .inr (1, [.int 0, .ref a0, .int 0]))] sz) := by
  refine Met.ofW (cc := cX10_tagged) (maxL := 4) (ret := (some .int)) (by decide) rfl ?_
  intro p e s m args below meth c s₁ B hml hv
  obtain ⟨rfl, hsz, hP, hK, hD0, hZ⟩ := hv
  have hx := B.exec
  have hb := B.bytes
  have hr := B.returns
  have hts := atoms_spec (ws := zs_c_X10_tagged) B.pre
  have hown : s.vm.findClass RX10 = some m.cls := findClass_of_methodNamed B.named
  have hlocks := B.notSynchronized
  have hiX10 : ∀ w ∈ wsX100, w ∈ zs_c_X10_tagged := by decide +kernel
  subst hsz
  have hD := hD0.self (sz := s.heap.size)
  generalize hAe : va_A [(m0, .inr (12, [.int 0, .ref l1, .ref l2, .int 0, .int 0, .int 0, .long 0])), (l2, .inr (1, [.int 0, .ref a0, .int 0]))] s.heap.size = A at hD hZ ⊢
  have hA : ∀ q : Nat, s.heap.size ≤ q → A q := fun q h => by rw [← hAe]; exact Or.inr h
  have hS : va_S A s.heap s.heap [] := va_S.rf
  have hl := lv_entry ([.ref m0, .int p0, .int p1, .int p2]) (n := 4) (Nat.le_of_ble_eq_true rfl)
  rw [lg_entry_eq]
  generalize (lg_sl ([.ref m0, .int p0, .int p1, .int p2]) ++ List.replicate (4 - (lg_sl ([.ref m0, .int p0, .int p1, .int p2])).length) Slot.unset).toArray = ls at hl ⊢
  have hl : lv_has ls 4 [(0, .ref m0), (1, .int p0), (2, .int p1), (3, .int p2)] := hl
  refine lv_aload_n hx hb dX10_tagged_0 rfl (lv_at hl 0 rfl) ?_
  refine lv_iconst (v := 0) hx hb dX10_tagged_1 (by decide) ?_
  refine va_put (D := (dC, dI)) (ci := 12) (v := .int 0) (ty := .int) (C := RX10) (T := TX10) (N := 7) hx hb hts hiX10 tyX10 tyX10_ok nmX10 hown hK hP hD hS 0 rfl rfl 0 (by decide) (hts (.fieldLink RX10 19 "HaltingaleModel" "thrown" "I") (by decide +kernel)) (fun _ h9 => h9) rfl (by decide +kernel) rfl rfl (Nat.le_of_ble_eq_true rfl) dX10_tagged_2 (fun H locs hP hD hS => ?_)
  have hP : va_P (dC, dI) vwCl [(m0, .inr (12, [.int 0, .ref l1, .ref l2, .int 0, .int 0, .int 0, .long 0])), (l2, .inr (1, [.int 0, .ref a0, .int 0]))] H := hP
  have hD : va_D A [(m0, .inr (12, [.int 0, .ref l1, .ref l2, .int 0, .int 0, .int 0, .long 0])), (l2, .inr (1, [.int 0, .ref a0, .int 0]))] := hD
  refine lv_iload_n hx hb dX10_tagged_5 rfl (lv_at hl 1 rfl) ?_
  refine lv_iconst (v := 0) hx hb dX10_tagged_6 (by decide) ?_
  refine lv_aload_n hx hb dX10_tagged_7 rfl (lv_at hl 0 rfl) ?_
  refine va_get (D := (dC, dI)) (ci := 12) (v := .ref l2) (C := RX10) (T := TX10) (N := 7) hx hb hts hiX10 hown hK hP 0 rfl rfl 2 (by decide) (hts (.fieldLink RX10 16 "HaltingaleModel" "tags" "Ljava/util/ArrayList;") (by decide +kernel)) (fun _ h9 => h9) rfl dX10_tagged_8 ?_
  have hPc := hP.sub (ws' := [(l2, .inr (1, [.int 0, .ref a0, .int 0]))]) [1] rfl
  have hDc := hD.sub (ws' := [(l2, .inr (1, [.int 0, .ref a0, .int 0]))]) [1] (by decide) rfl
  have hKc := hK.sub (tys' := []) [] rfl
  have hFc := va_free (wc := [(l2, .inr (1, [.int 0, .ref a0, .int 0]))]) hD hS hA [1] rfl
  have hZc := ((hZ.kept hS.2.1).narrow hFc)
  refine va_calli (va_runV (As := []) (rest := [.int 0, .int p0]) ⟨hx, hb, hml, hown, hts⟩ (c_Jx4a65c_size_8abf5 l hnt dC dI a0 l2 0 a0 0 H.size ) (cwV 0 hts (goodIn_of _ (by decide +kernel)) rfl rfl rfl (by decide +kernel) ⟨Nat.le_of_ble_eq_true rfl, Nat.le_of_ble_eq_true rfl⟩) ⟨fun a U g mk q => by obtain ⟨q0, q1, qP, qK, qD, qZ⟩ := q; exact ⟨q0, q1, qP, va_K.moved (u := U) (U := U.calling g mk a) (Vm.Alike.refl U.vm) qK, qD, qZ.call⟩, va_recv hKc hPc (ci := 1) (q0 := 0) rfl rfl, fun U hU hW => ⟨rfl, by rw [hU], by rw [hU]; exact hPc, va_K.moved hW.alike hKc, hDc.weaken (fun _ _ _ _ => trivial), by rw [hU]; exact hZc.warm hW⟩⟩ rfl rfl hl.1 rfl (lv_room (Nat.le_of_ble_eq_true rfl)) dX10_tagged_11 ⟨Nat.le_of_ble_eq_true rfl, Nat.le_of_ble_eq_true rfl⟩) hS (fun q _ h => hFc q h) hFc (fun r_1 u t H1 locs ht hvm hw hB hz1 hk1 hS => ?_)
  obtain ⟨hP1, hK1, hD1⟩ := hB
  rw [ht] at hP1
  have hK1 := va_K.moved hvm.symm hK1
  obtain ⟨hP, hD⟩ := va_join (wr := [(m0, .inr (12, [.int 0, .ref l1, .ref l2, .int 0, .int 0, .int 0, .long 0]))]) (w1 := [(l2, .inr (1, [.int 0, .ref a0, .int 0]))]) hP hD [1] [0] rfl rfl (by decide) (by decide) hk1 hFc hP1 hD1
  have hK := (hK.sub (tys' := []) [] rfl).app hK1
  generalize H1 = H at hP hS ⊢
  have hP : va_P (dC, dI) vwCl [(m0, .inr (12, [.int 0, .ref l1, .ref l2, .int 0, .int 0, .int 0, .long 0])), (l2, .inr (1, [.int 0, .ref a0, .int 0]))] H := hP
  have hD : va_D A [(m0, .inr (12, [.int 0, .ref l1, .ref l2, .int 0, .int 0, .int 0, .long 0])), (l2, .inr (1, [.int 0, .ref a0, .int 0]))] := hD
  have hK : va_K (dC, dI) vwCl [] s := hK
  refine W.widen (k := 0) (n := 0) (Nat.le_of_ble_eq_true rfl) (Nat.le_of_ble_eq_true rfl) ?_
  obtain rfl : r_1 = 0 := hw
  refine lv_iconst (v := 1) hx hb dX10_tagged_14 (by decide) ?_
  refine lv_isub hx hb dX10_tagged_15 ?_
  refine lv_topi (fun x_2 ex_2 => ?_)
  obtain rfl : x_2 = (-1) := ex_2.trans (by decide)
  have hPc := hP.sub (ws' := []) [] rfl
  have hDc := hD.sub (ws' := []) [] (by decide) rfl
  have hKc := hK.sub (tys' := []) [] rfl
  have hFc := va_free (wc := []) hD hS hA [] rfl
  have hZc := ((hZ.kept hS.2.1).narrow hFc)
  refine va_calli (va_runS (As := [.int p0, .int 0, .int (-1)]) (rest := []) ⟨hx, hb, hml, hown, hts⟩ (c_X10_is l hnt dC dI a0 p0 0 ((-1)) H.size ) (va_cwS 3 hts (goodIn_of _ (by decide +kernel)) rfl rfl rfl (by decide +kernel) ⟨Nat.le_of_ble_eq_true rfl, Nat.le_of_ble_eq_true rfl⟩) ⟨fun a U g mk q => by obtain ⟨q0, q1, qP, qK, qD, qZ⟩ := q; exact ⟨q0, q1, qP, va_K.moved (u := U) (U := U.calling g mk a) (Vm.Alike.refl U.vm) qK, qD, qZ.call⟩, fun U hU hW => ⟨rfl, by rw [hU], by rw [hU]; exact hPc, va_K.moved hW.alike hKc, hDc.weaken (fun _ _ _ _ => trivial), by rw [hU]; exact hZc.warm hW⟩⟩ rfl rfl hl.1 rfl (lv_room (Nat.le_of_ble_eq_true rfl)) dX10_tagged_16 ⟨Nat.le_of_ble_eq_true rfl, Nat.le_of_ble_eq_true rfl⟩) hS (fun q _ h => hFc q h) hFc (fun r_3 u t H1 locs ht hvm hw hB hz1 hk1 hS => ?_)
  obtain ⟨hP1, hK1, hD1⟩ := hB
  rw [ht] at hP1
  have hK1 := va_K.moved hvm.symm hK1
  obtain ⟨hP, hD⟩ := va_join (wr := [(m0, .inr (12, [.int 0, .ref l1, .ref l2, .int 0, .int 0, .int 0, .long 0])), (l2, .inr (1, [.int 0, .ref a0, .int 0]))]) (w1 := []) hP hD [] [0, 1] rfl rfl (by decide) (by decide) hk1 hFc hP1 hD1
  have hK := (hK.sub (tys' := []) [] rfl).app hK1
  generalize H1 = H at hP hS ⊢
  have hP : va_P (dC, dI) vwCl [(m0, .inr (12, [.int 0, .ref l1, .ref l2, .int 0, .int 0, .int 0, .long 0])), (l2, .inr (1, [.int 0, .ref a0, .int 0]))] H := hP
  have hD : va_D A [(m0, .inr (12, [.int 0, .ref l1, .ref l2, .int 0, .int 0, .int 0, .long 0])), (l2, .inr (1, [.int 0, .ref a0, .int 0]))] := hD
  have hK : va_K (dC, dI) vwCl [] s := hK
  refine W.widen (k := 0) (n := 0) (Nat.le_of_ble_eq_true rfl) (Nat.le_of_ble_eq_true rfl) ?_
  obtain rfl : r_3 = 0 := hw.trans (zw_none p0)
  refine lv_if_ne (tgt := 28) hx hb dX10_tagged_19 (by decide) (fun c_4 => ?_) (fun c_4 => ?_)
  · (first | exact absurd c_4 (by decide) | exact absurd (by decide) c_4)
  refine lv_aload_n hx hb dX10_tagged_22 rfl (lv_at hl 0 rfl) ?_
  refine lv_iconst (v := 1) hx hb dX10_tagged_23 (by decide) ?_
  have hPc := hP.sub (ws' := [(m0, .inr (12, [.int 0, .ref l1, .ref l2, .int 0, .int 0, .int 0, .long 0]))]) [0] rfl
  have hDc := hD.sub (ws' := [(m0, .inr (12, [.int 0, .ref l1, .ref l2, .int 0, .int 0, .int 0, .long 0]))]) [0] (by decide) rfl
  have hKc := hK.sub (tys' := []) [] rfl
  have hFc := va_free (wc := [(m0, .inr (12, [.int 0, .ref l1, .ref l2, .int 0, .int 0, .int 0, .long 0]))]) hD hS hA [0] rfl
  have hZc := ((hZ.kept hS.2.1).narrow hFc)
  refine va_calli (va_runV (As := [.int 1]) (rest := []) ⟨hx, hb, hml, hown, hts⟩ (c_X10_refuse l hnt dC dI a0 m0 l1 l2 1 H.size ) (cwV 1 hts (goodIn_of _ (by decide +kernel)) rfl rfl rfl (by decide +kernel) ⟨Nat.le_of_ble_eq_true rfl, Nat.le_of_ble_eq_true rfl⟩) ⟨fun a U g mk q => by obtain ⟨q0, q1, qP, qK, qD, qZ⟩ := q; exact ⟨q0, q1, qP, va_K.moved (u := U) (U := U.calling g mk a) (Vm.Alike.refl U.vm) qK, qD, qZ.call⟩, va_recv hKc hPc (ci := 12) (q0 := 0) rfl rfl, fun U hU hW => ⟨rfl, by rw [hU], by rw [hU]; exact hPc, va_K.moved hW.alike hKc, hDc.weaken (fun _ _ _ _ => trivial), by rw [hU]; exact hZc.warm hW⟩⟩ rfl rfl hl.1 rfl (lv_room (Nat.le_of_ble_eq_true rfl)) dX10_tagged_24 ⟨Nat.le_of_ble_eq_true rfl, Nat.le_of_ble_eq_true rfl⟩) hS (fun q _ h => hFc q h) hFc (fun r_5 u t H1 locs ht hvm hw hB hz1 hk1 hS => ?_)
  obtain ⟨hP1, hK1, hD1⟩ := hB
  rw [ht] at hP1
  have hK1 := va_K.moved hvm.symm hK1
  obtain ⟨hP, hD⟩ := va_join (wr := [(l2, .inr (1, [.int 0, .ref a0, .int 0]))]) (w1 := [(m0, .inr (12, [.int 1, .ref l1, .ref l2, .int 0, .int 0, .int 0, .long 0]))]) hP hD [0] [1] rfl rfl (by decide) (by decide) hk1 hFc hP1 hD1
  have hK := (hK.sub (tys' := []) [] rfl).app hK1
  generalize H1 = H at hP hS ⊢
  have hP : va_P (dC, dI) vwCl [(l2, .inr (1, [.int 0, .ref a0, .int 0])), (m0, .inr (12, [.int 1, .ref l1, .ref l2, .int 0, .int 0, .int 0, .long 0]))] H := hP
  have hD : va_D A [(l2, .inr (1, [.int 0, .ref a0, .int 0])), (m0, .inr (12, [.int 1, .ref l1, .ref l2, .int 0, .int 0, .int 0, .long 0]))] := hD
  have hK : va_K (dC, dI) vwCl [] s := hK
  refine W.widen (k := 0) (n := 0) (Nat.le_of_ble_eq_true rfl) (Nat.le_of_ble_eq_true rfl) ?_
  obtain rfl : r_5 = 0 := hw
  have hP9 := hP.sub (ws' := [(m0, .inr (12, [.int 1, .ref l1, .ref l2, .int 0, .int 0, .int 0, .long 0]))]) [1] rfl
  have hD9 := hD.sub (ws' := [(m0, .inr (12, [.int 1, .ref l1, .ref l2, .int 0, .int 0, .int 0, .long 0]))]) [1] (by decide) rfl
  have hK9 := hK.sub (tys' := []) [] rfl
  refine W.widen (k := 0) (n := 0) (Nat.le_of_ble_eq_true rfl) (Nat.le_of_ble_eq_true rfl) ?_
  exact W.iret (v := 0) hx hb hr (fun t ht hW => ⟨⟨0, (), rfl, rfl, ⟨by rw [ht]; exact hP9, va_K.moved hW.alike hK9, hD9⟩⟩, hS.F ht⟩) hS.2.2 dX10_tagged_27

def zs_c_X10_machine_no : List Cond := .code yX10_machine cX10_machine 2 (some .int) :: (([.fieldLink RX10 19 "HaltingaleModel" "thrown" "I", .code yX10_is cX10_is 3 (some .boolean), .methodLink RX10 27 yX10_is, .static yX10_is, .initialized RX10, .code yX10_refuse cX10_refuse 2 (some .int), .methodLink RX10 31 yX10_refuse, .instanceMethod yX10_refuse, .selects RX10 yX10_refuse yX10_refuse] : List Cond) ++ wsX100)
set_option maxHeartbeats 4000000 in
set_option maxRecDepth 100000 in
/-- machine, out of its range -/
theorem c_X10_machine_no (l : Launch) (hnt : l.stackTraces = false) (dC : Nat → ClassId) (dI : Nat → Nat → Nat) (a0 : Nat) (m0 : Nat) (l1 : Nat) (l2 : Nat) (p0 : Int32) (sz : Nat) (hp : zw p0 2 4 = 0) : Met l yX10_machine zs_c_X10_machine_no ({ frames := 1, cells := 0, slots := 0, locals := 22 }) (va_Pc [.ref m0, .int p0] (fun U => U.heap.size = sz ∧ va_P (dC, dI) vwCl [(m0, .inr (12, [.int 0, .ref l1, .ref l2, .int 0, .int 0, .int 0, .long 0]))] U.heap ∧ va_K (dC, dI) vwCl [] U ∧ va_D (fun _ => True) [(m0, .inr (12, [.int 0, .ref l1, .ref l2, .int 0, .int 0, .int 0, .long 0]))] ∧ zB a0 (va_A [(m0, .inr (12, [.int 0, .ref l1, .ref l2, .int 0, .int 0, .int 0, .long 0]))] sz) U U.heap)) (va_Qi (fun (r : Int32) (_ : Unit) => r = 0) (fun _ t => va_P (dC, dI) vwCl [(m0, .inr (12, [.int 1, .ref l1, .ref l2, .int 0, .int 0, .int 0, .long 0]))] t.heap ∧ va_K (dC, dI) vwCl [] t ∧ va_D (va_A [(m0, .inr (12, [.int 0, .ref l1, .ref l2, .int 0, .int 0, .int 0, .long 0]))] sz) [(m0, .inr (12, [.int 1, .ref l1, .ref l2, .int 0, .int 0, .int 0, .long 0]))]) (va_A [(m0, .inr (12, [.int 0, .ref l1, .ref l2, .int 0, .int 0, .int 0, .long 0]))] sz)) 0 0 (va_A [(m0, .inr (12, [.int 0, .ref l1, .ref l2, .int 0, .int 0, .int 0, .long 0]))] sz) := by
  refine Met.ofW (cc := cX10_machine) (maxL := 2) (ret := (some .int)) (by decide) rfl ?_
  intro p e s m args below meth c s₁ B hml hv
  obtain ⟨rfl, hsz, hP, hK, hD0, hZ⟩ := hv
  have hx := B.exec
  have hb := B.bytes
  have hr := B.returns
  have hts := atoms_spec (ws := zs_c_X10_machine_no) B.pre
  have hown : s.vm.findClass RX10 = some m.cls := findClass_of_methodNamed B.named
  have hlocks := B.notSynchronized
  have hiX10 : ∀ w ∈ wsX100, w ∈ zs_c_X10_machine_no := by decide +kernel
  subst hsz
  have hD := hD0.self (sz := s.heap.size)
  generalize hAe : va_A [(m0, .inr (12, [.int 0, .ref l1, .ref l2, .int 0, .int 0, .int 0, .long 0]))] s.heap.size = A at hD hZ ⊢
  have hA : ∀ q : Nat, s.heap.size ≤ q → A q := fun q h => by rw [← hAe]; exact Or.inr h
  have hS : va_S A s.heap s.heap [] := va_S.rf
  have hl := lv_entry ([.ref m0, .int p0]) (n := 2) (Nat.le_of_ble_eq_true rfl)
  rw [lg_entry_eq]
  generalize (lg_sl ([.ref m0, .int p0]) ++ List.replicate (2 - (lg_sl ([.ref m0, .int p0])).length) Slot.unset).toArray = ls at hl ⊢
  have hl : lv_has ls 2 [(0, .ref m0), (1, .int p0)] := hl
  refine lv_aload_n hx hb dX10_machine_0 rfl (lv_at hl 0 rfl) ?_
  refine lv_iconst (v := 0) hx hb dX10_machine_1 (by decide) ?_
  refine va_put (D := (dC, dI)) (ci := 12) (v := .int 0) (ty := .int) (C := RX10) (T := TX10) (N := 7) hx hb hts hiX10 tyX10 tyX10_ok nmX10 hown hK hP hD hS 0 rfl rfl 0 (by decide) (hts (.fieldLink RX10 19 "HaltingaleModel" "thrown" "I") (by decide +kernel)) (fun _ h9 => h9) rfl (by decide +kernel) rfl rfl (Nat.le_of_ble_eq_true rfl) dX10_machine_2 (fun H locs hP hD hS => ?_)
  have hP : va_P (dC, dI) vwCl [(m0, .inr (12, [.int 0, .ref l1, .ref l2, .int 0, .int 0, .int 0, .long 0]))] H := hP
  have hD : va_D A [(m0, .inr (12, [.int 0, .ref l1, .ref l2, .int 0, .int 0, .int 0, .long 0]))] := hD
  refine lv_iload_n hx hb dX10_machine_5 rfl (lv_at hl 1 rfl) ?_
  refine lv_iconst (v := 2) hx hb dX10_machine_6 (by decide) ?_
  refine lv_iconst (v := 4) hx hb dX10_machine_7 (by decide) ?_
  have hPc := hP.sub (ws' := []) [] rfl
  have hDc := hD.sub (ws' := []) [] (by decide) rfl
  have hKc := hK.sub (tys' := []) [] rfl
  have hFc := va_free (wc := []) hD hS hA [] rfl
  have hZc := ((hZ.kept hS.2.1).narrow hFc)
  refine va_calli (va_runS (As := [.int p0, .int 2, .int 4]) (rest := []) ⟨hx, hb, hml, hown, hts⟩ (c_X10_is l hnt dC dI a0 p0 2 4 H.size ) (va_cwS 3 hts (goodIn_of _ (by decide +kernel)) rfl rfl rfl (by decide +kernel) ⟨Nat.le_of_ble_eq_true rfl, Nat.le_of_ble_eq_true rfl⟩) ⟨fun a U g mk q => by obtain ⟨q0, q1, qP, qK, qD, qZ⟩ := q; exact ⟨q0, q1, qP, va_K.moved (u := U) (U := U.calling g mk a) (Vm.Alike.refl U.vm) qK, qD, qZ.call⟩, fun U hU hW => ⟨rfl, by rw [hU], by rw [hU]; exact hPc, va_K.moved hW.alike hKc, hDc.weaken (fun _ _ _ _ => trivial), by rw [hU]; exact hZc.warm hW⟩⟩ rfl rfl hl.1 rfl (lv_room (Nat.le_of_ble_eq_true rfl)) dX10_machine_8 ⟨Nat.le_of_ble_eq_true rfl, Nat.le_of_ble_eq_true rfl⟩) hS (fun q _ h => hFc q h) hFc (fun r_1 u t H1 locs ht hvm hw hB hz1 hk1 hS => ?_)
  obtain ⟨hP1, hK1, hD1⟩ := hB
  rw [ht] at hP1
  have hK1 := va_K.moved hvm.symm hK1
  obtain ⟨hP, hD⟩ := va_join (wr := [(m0, .inr (12, [.int 0, .ref l1, .ref l2, .int 0, .int 0, .int 0, .long 0]))]) (w1 := []) hP hD [] [0] rfl rfl (by decide) (by decide) hk1 hFc hP1 hD1
  have hK := (hK.sub (tys' := []) [] rfl).app hK1
  generalize H1 = H at hP hS ⊢
  have hP : va_P (dC, dI) vwCl [(m0, .inr (12, [.int 0, .ref l1, .ref l2, .int 0, .int 0, .int 0, .long 0]))] H := hP
  have hD : va_D A [(m0, .inr (12, [.int 0, .ref l1, .ref l2, .int 0, .int 0, .int 0, .long 0]))] := hD
  have hK : va_K (dC, dI) vwCl [] s := hK
  refine W.widen (k := 0) (n := 0) (Nat.le_of_ble_eq_true rfl) (Nat.le_of_ble_eq_true rfl) ?_
  obtain rfl : r_1 = 0 := hw.trans (hp)
  refine lv_if_ne (tgt := 20) hx hb dX10_machine_11 (by decide) (fun c_2 => ?_) (fun c_2 => ?_)
  · (first | exact absurd c_2 (by decide) | exact absurd (by decide) c_2)
  refine lv_aload_n hx hb dX10_machine_14 rfl (lv_at hl 0 rfl) ?_
  refine lv_iconst (v := 1) hx hb dX10_machine_15 (by decide) ?_
  have hPc := hP.sub (ws' := [(m0, .inr (12, [.int 0, .ref l1, .ref l2, .int 0, .int 0, .int 0, .long 0]))]) [0] rfl
  have hDc := hD.sub (ws' := [(m0, .inr (12, [.int 0, .ref l1, .ref l2, .int 0, .int 0, .int 0, .long 0]))]) [0] (by decide) rfl
  have hKc := hK.sub (tys' := []) [] rfl
  have hFc := va_free (wc := [(m0, .inr (12, [.int 0, .ref l1, .ref l2, .int 0, .int 0, .int 0, .long 0]))]) hD hS hA [0] rfl
  have hZc := ((hZ.kept hS.2.1).narrow hFc)
  refine va_calli (va_runV (As := [.int 1]) (rest := []) ⟨hx, hb, hml, hown, hts⟩ (c_X10_refuse l hnt dC dI a0 m0 l1 l2 1 H.size ) (cwV 1 hts (goodIn_of _ (by decide +kernel)) rfl rfl rfl (by decide +kernel) ⟨Nat.le_of_ble_eq_true rfl, Nat.le_of_ble_eq_true rfl⟩) ⟨fun a U g mk q => by obtain ⟨q0, q1, qP, qK, qD, qZ⟩ := q; exact ⟨q0, q1, qP, va_K.moved (u := U) (U := U.calling g mk a) (Vm.Alike.refl U.vm) qK, qD, qZ.call⟩, va_recv hKc hPc (ci := 12) (q0 := 0) rfl rfl, fun U hU hW => ⟨rfl, by rw [hU], by rw [hU]; exact hPc, va_K.moved hW.alike hKc, hDc.weaken (fun _ _ _ _ => trivial), by rw [hU]; exact hZc.warm hW⟩⟩ rfl rfl hl.1 rfl (lv_room (Nat.le_of_ble_eq_true rfl)) dX10_machine_16 ⟨Nat.le_of_ble_eq_true rfl, Nat.le_of_ble_eq_true rfl⟩) hS (fun q _ h => hFc q h) hFc (fun r_3 u t H1 locs ht hvm hw hB hz1 hk1 hS => ?_)
  obtain ⟨hP1, hK1, hD1⟩ := hB
  rw [ht] at hP1
  have hK1 := va_K.moved hvm.symm hK1
  obtain ⟨hP, hD⟩ := va_join (wr := []) (w1 := [(m0, .inr (12, [.int 1, .ref l1, .ref l2, .int 0, .int 0, .int 0, .long 0]))]) hP hD [0] [] rfl rfl (by decide) (by decide) hk1 hFc hP1 hD1
  have hK := (hK.sub (tys' := []) [] rfl).app hK1
  generalize H1 = H at hP hS ⊢
  have hP : va_P (dC, dI) vwCl [(m0, .inr (12, [.int 1, .ref l1, .ref l2, .int 0, .int 0, .int 0, .long 0]))] H := hP
  have hD : va_D A [(m0, .inr (12, [.int 1, .ref l1, .ref l2, .int 0, .int 0, .int 0, .long 0]))] := hD
  have hK : va_K (dC, dI) vwCl [] s := hK
  refine W.widen (k := 0) (n := 0) (Nat.le_of_ble_eq_true rfl) (Nat.le_of_ble_eq_true rfl) ?_
  obtain rfl : r_3 = 0 := hw
  have hP9 := hP.sub (ws' := [(m0, .inr (12, [.int 1, .ref l1, .ref l2, .int 0, .int 0, .int 0, .long 0]))]) [0] rfl
  have hD9 := hD.sub (ws' := [(m0, .inr (12, [.int 1, .ref l1, .ref l2, .int 0, .int 0, .int 0, .long 0]))]) [0] (by decide) rfl
  have hK9 := hK.sub (tys' := []) [] rfl
  refine W.widen (k := 0) (n := 0) (Nat.le_of_ble_eq_true rfl) (Nat.le_of_ble_eq_true rfl) ?_
  exact W.iret (v := 0) hx hb hr (fun t ht hW => ⟨⟨0, (), rfl, rfl, ⟨by rw [ht]; exact hP9, va_K.moved hW.alike hK9, hD9⟩⟩, hS.F ht⟩) hS.2.2 dX10_machine_19

def zs_c_X10_doubt_no : List Cond := .code yX10_doubt cX10_doubt 5 (some .int) :: (([.fieldLink RX10 19 "HaltingaleModel" "thrown" "I", .code yX10_is cX10_is 3 (some .boolean), .methodLink RX10 27 yX10_is, .static yX10_is, .initialized RX10, .code yX10_refuse cX10_refuse 2 (some .int), .methodLink RX10 31 yX10_refuse, .instanceMethod yX10_refuse, .selects RX10 yX10_refuse yX10_refuse] : List Cond) ++ wsX100)
set_option maxHeartbeats 4000000 in
set_option maxRecDepth 100000 in
/-- doubt, out of its range -/
theorem c_X10_doubt_no (l : Launch) (hnt : l.stackTraces = false) (dC : Nat → ClassId) (dI : Nat → Nat → Nat) (a0 : Nat) (m0 : Nat) (l1 : Nat) (l2 : Nat) (p0 : Int32) (sz : Nat) (hp : zw p0 0 3 = 0) : Met l yX10_doubt zs_c_X10_doubt_no ({ frames := 1, cells := 0, slots := 0, locals := 22 }) (va_Pc [.ref m0, .int p0] (fun U => U.heap.size = sz ∧ va_P (dC, dI) vwCl [(m0, .inr (12, [.int 0, .ref l1, .ref l2, .int 0, .int 0, .int 0, .long 0]))] U.heap ∧ va_K (dC, dI) vwCl [] U ∧ va_D (fun _ => True) [(m0, .inr (12, [.int 0, .ref l1, .ref l2, .int 0, .int 0, .int 0, .long 0]))] ∧ zB a0 (va_A [(m0, .inr (12, [.int 0, .ref l1, .ref l2, .int 0, .int 0, .int 0, .long 0]))] sz) U U.heap)) (va_Qi (fun (r : Int32) (_ : Unit) => r = 0) (fun _ t => va_P (dC, dI) vwCl [(m0, .inr (12, [.int 1, .ref l1, .ref l2, .int 0, .int 0, .int 0, .long 0]))] t.heap ∧ va_K (dC, dI) vwCl [] t ∧ va_D (va_A [(m0, .inr (12, [.int 0, .ref l1, .ref l2, .int 0, .int 0, .int 0, .long 0]))] sz) [(m0, .inr (12, [.int 1, .ref l1, .ref l2, .int 0, .int 0, .int 0, .long 0]))]) (va_A [(m0, .inr (12, [.int 0, .ref l1, .ref l2, .int 0, .int 0, .int 0, .long 0]))] sz)) 0 0 (va_A [(m0, .inr (12, [.int 0, .ref l1, .ref l2, .int 0, .int 0, .int 0, .long 0]))] sz) := by
  refine Met.ofW (cc := cX10_doubt) (maxL := 5) (ret := (some .int)) (by decide) rfl ?_
  intro p e s m args below meth c s₁ B hml hv
  obtain ⟨rfl, hsz, hP, hK, hD0, hZ⟩ := hv
  have hx := B.exec
  have hb := B.bytes
  have hr := B.returns
  have hts := atoms_spec (ws := zs_c_X10_doubt_no) B.pre
  have hown : s.vm.findClass RX10 = some m.cls := findClass_of_methodNamed B.named
  have hlocks := B.notSynchronized
  have hiX10 : ∀ w ∈ wsX100, w ∈ zs_c_X10_doubt_no := by decide +kernel
  subst hsz
  have hD := hD0.self (sz := s.heap.size)
  generalize hAe : va_A [(m0, .inr (12, [.int 0, .ref l1, .ref l2, .int 0, .int 0, .int 0, .long 0]))] s.heap.size = A at hD hZ ⊢
  have hA : ∀ q : Nat, s.heap.size ≤ q → A q := fun q h => by rw [← hAe]; exact Or.inr h
  have hS : va_S A s.heap s.heap [] := va_S.rf
  have hl := lv_entry ([.ref m0, .int p0]) (n := 5) (Nat.le_of_ble_eq_true rfl)
  rw [lg_entry_eq]
  generalize (lg_sl ([.ref m0, .int p0]) ++ List.replicate (5 - (lg_sl ([.ref m0, .int p0])).length) Slot.unset).toArray = ls at hl ⊢
  have hl : lv_has ls 5 [(0, .ref m0), (1, .int p0)] := hl
  refine lv_aload_n hx hb dX10_doubt_0 rfl (lv_at hl 0 rfl) ?_
  refine lv_iconst (v := 0) hx hb dX10_doubt_1 (by decide) ?_
  refine va_put (D := (dC, dI)) (ci := 12) (v := .int 0) (ty := .int) (C := RX10) (T := TX10) (N := 7) hx hb hts hiX10 tyX10 tyX10_ok nmX10 hown hK hP hD hS 0 rfl rfl 0 (by decide) (hts (.fieldLink RX10 19 "HaltingaleModel" "thrown" "I") (by decide +kernel)) (fun _ h9 => h9) rfl (by decide +kernel) rfl rfl (Nat.le_of_ble_eq_true rfl) dX10_doubt_2 (fun H locs hP hD hS => ?_)
  have hP : va_P (dC, dI) vwCl [(m0, .inr (12, [.int 0, .ref l1, .ref l2, .int 0, .int 0, .int 0, .long 0]))] H := hP
  have hD : va_D A [(m0, .inr (12, [.int 0, .ref l1, .ref l2, .int 0, .int 0, .int 0, .long 0]))] := hD
  refine lv_iload_n hx hb dX10_doubt_5 rfl (lv_at hl 1 rfl) ?_
  refine lv_iconst (v := 0) hx hb dX10_doubt_6 (by decide) ?_
  refine lv_iconst (v := 3) hx hb dX10_doubt_7 (by decide) ?_
  have hPc := hP.sub (ws' := []) [] rfl
  have hDc := hD.sub (ws' := []) [] (by decide) rfl
  have hKc := hK.sub (tys' := []) [] rfl
  have hFc := va_free (wc := []) hD hS hA [] rfl
  have hZc := ((hZ.kept hS.2.1).narrow hFc)
  refine va_calli (va_runS (As := [.int p0, .int 0, .int 3]) (rest := []) ⟨hx, hb, hml, hown, hts⟩ (c_X10_is l hnt dC dI a0 p0 0 3 H.size ) (va_cwS 3 hts (goodIn_of _ (by decide +kernel)) rfl rfl rfl (by decide +kernel) ⟨Nat.le_of_ble_eq_true rfl, Nat.le_of_ble_eq_true rfl⟩) ⟨fun a U g mk q => by obtain ⟨q0, q1, qP, qK, qD, qZ⟩ := q; exact ⟨q0, q1, qP, va_K.moved (u := U) (U := U.calling g mk a) (Vm.Alike.refl U.vm) qK, qD, qZ.call⟩, fun U hU hW => ⟨rfl, by rw [hU], by rw [hU]; exact hPc, va_K.moved hW.alike hKc, hDc.weaken (fun _ _ _ _ => trivial), by rw [hU]; exact hZc.warm hW⟩⟩ rfl rfl hl.1 rfl (lv_room (Nat.le_of_ble_eq_true rfl)) dX10_doubt_8 ⟨Nat.le_of_ble_eq_true rfl, Nat.le_of_ble_eq_true rfl⟩) hS (fun q _ h => hFc q h) hFc (fun r_1 u t H1 locs ht hvm hw hB hz1 hk1 hS => ?_)
  obtain ⟨hP1, hK1, hD1⟩ := hB
  rw [ht] at hP1
  have hK1 := va_K.moved hvm.symm hK1
  obtain ⟨hP, hD⟩ := va_join (wr := [(m0, .inr (12, [.int 0, .ref l1, .ref l2, .int 0, .int 0, .int 0, .long 0]))]) (w1 := []) hP hD [] [0] rfl rfl (by decide) (by decide) hk1 hFc hP1 hD1
  have hK := (hK.sub (tys' := []) [] rfl).app hK1
  generalize H1 = H at hP hS ⊢
  have hP : va_P (dC, dI) vwCl [(m0, .inr (12, [.int 0, .ref l1, .ref l2, .int 0, .int 0, .int 0, .long 0]))] H := hP
  have hD : va_D A [(m0, .inr (12, [.int 0, .ref l1, .ref l2, .int 0, .int 0, .int 0, .long 0]))] := hD
  have hK : va_K (dC, dI) vwCl [] s := hK
  refine W.widen (k := 0) (n := 0) (Nat.le_of_ble_eq_true rfl) (Nat.le_of_ble_eq_true rfl) ?_
  obtain rfl : r_1 = 0 := hw.trans (hp)
  refine lv_if_ne (tgt := 20) hx hb dX10_doubt_11 (by decide) (fun c_2 => ?_) (fun c_2 => ?_)
  · (first | exact absurd c_2 (by decide) | exact absurd (by decide) c_2)
  refine lv_aload_n hx hb dX10_doubt_14 rfl (lv_at hl 0 rfl) ?_
  refine lv_iconst (v := 1) hx hb dX10_doubt_15 (by decide) ?_
  have hPc := hP.sub (ws' := [(m0, .inr (12, [.int 0, .ref l1, .ref l2, .int 0, .int 0, .int 0, .long 0]))]) [0] rfl
  have hDc := hD.sub (ws' := [(m0, .inr (12, [.int 0, .ref l1, .ref l2, .int 0, .int 0, .int 0, .long 0]))]) [0] (by decide) rfl
  have hKc := hK.sub (tys' := []) [] rfl
  have hFc := va_free (wc := [(m0, .inr (12, [.int 0, .ref l1, .ref l2, .int 0, .int 0, .int 0, .long 0]))]) hD hS hA [0] rfl
  have hZc := ((hZ.kept hS.2.1).narrow hFc)
  refine va_calli (va_runV (As := [.int 1]) (rest := []) ⟨hx, hb, hml, hown, hts⟩ (c_X10_refuse l hnt dC dI a0 m0 l1 l2 1 H.size ) (cwV 1 hts (goodIn_of _ (by decide +kernel)) rfl rfl rfl (by decide +kernel) ⟨Nat.le_of_ble_eq_true rfl, Nat.le_of_ble_eq_true rfl⟩) ⟨fun a U g mk q => by obtain ⟨q0, q1, qP, qK, qD, qZ⟩ := q; exact ⟨q0, q1, qP, va_K.moved (u := U) (U := U.calling g mk a) (Vm.Alike.refl U.vm) qK, qD, qZ.call⟩, va_recv hKc hPc (ci := 12) (q0 := 0) rfl rfl, fun U hU hW => ⟨rfl, by rw [hU], by rw [hU]; exact hPc, va_K.moved hW.alike hKc, hDc.weaken (fun _ _ _ _ => trivial), by rw [hU]; exact hZc.warm hW⟩⟩ rfl rfl hl.1 rfl (lv_room (Nat.le_of_ble_eq_true rfl)) dX10_doubt_16 ⟨Nat.le_of_ble_eq_true rfl, Nat.le_of_ble_eq_true rfl⟩) hS (fun q _ h => hFc q h) hFc (fun r_3 u t H1 locs ht hvm hw hB hz1 hk1 hS => ?_)
  obtain ⟨hP1, hK1, hD1⟩ := hB
  rw [ht] at hP1
  have hK1 := va_K.moved hvm.symm hK1
  obtain ⟨hP, hD⟩ := va_join (wr := []) (w1 := [(m0, .inr (12, [.int 1, .ref l1, .ref l2, .int 0, .int 0, .int 0, .long 0]))]) hP hD [0] [] rfl rfl (by decide) (by decide) hk1 hFc hP1 hD1
  have hK := (hK.sub (tys' := []) [] rfl).app hK1
  generalize H1 = H at hP hS ⊢
  have hP : va_P (dC, dI) vwCl [(m0, .inr (12, [.int 1, .ref l1, .ref l2, .int 0, .int 0, .int 0, .long 0]))] H := hP
  have hD : va_D A [(m0, .inr (12, [.int 1, .ref l1, .ref l2, .int 0, .int 0, .int 0, .long 0]))] := hD
  have hK : va_K (dC, dI) vwCl [] s := hK
  refine W.widen (k := 0) (n := 0) (Nat.le_of_ble_eq_true rfl) (Nat.le_of_ble_eq_true rfl) ?_
  obtain rfl : r_3 = 0 := hw
  have hP9 := hP.sub (ws' := [(m0, .inr (12, [.int 1, .ref l1, .ref l2, .int 0, .int 0, .int 0, .long 0]))]) [0] rfl
  have hD9 := hD.sub (ws' := [(m0, .inr (12, [.int 1, .ref l1, .ref l2, .int 0, .int 0, .int 0, .long 0]))]) [0] (by decide) rfl
  have hK9 := hK.sub (tys' := []) [] rfl
  refine W.widen (k := 0) (n := 0) (Nat.le_of_ble_eq_true rfl) (Nat.le_of_ble_eq_true rfl) ?_
  exact W.iret (v := 0) hx hb hr (fun t ht hW => ⟨⟨0, (), rfl, rfl, ⟨by rw [ht]; exact hP9, va_K.moved hW.alike hK9, hD9⟩⟩, hS.F ht⟩) hS.2.2 dX10_doubt_19

def zs_c_X10_champion_no : List Cond := .code yX10_champion cX10_champion 2 (some .int) :: (([.fieldLink RX10 19 "HaltingaleModel" "thrown" "I", .code yX10_is cX10_is 3 (some .boolean), .methodLink RX10 27 yX10_is, .static yX10_is, .initialized RX10, .code yX10_refuse cX10_refuse 2 (some .int), .methodLink RX10 31 yX10_refuse, .instanceMethod yX10_refuse, .selects RX10 yX10_refuse yX10_refuse] : List Cond) ++ wsX100)
set_option maxHeartbeats 4000000 in
set_option maxRecDepth 100000 in
/-- champion, out of its range -/
theorem c_X10_champion_no (l : Launch) (hnt : l.stackTraces = false) (dC : Nat → ClassId) (dI : Nat → Nat → Nat) (a0 : Nat) (m0 : Nat) (l1 : Nat) (l2 : Nat) (p0 : Int32) (sz : Nat) (hp : zw p0 0 1 = 0) : Met l yX10_champion zs_c_X10_champion_no ({ frames := 1, cells := 0, slots := 0, locals := 22 }) (va_Pc [.ref m0, .int p0] (fun U => U.heap.size = sz ∧ va_P (dC, dI) vwCl [(m0, .inr (12, [.int 0, .ref l1, .ref l2, .int 0, .int 0, .int 0, .long 0]))] U.heap ∧ va_K (dC, dI) vwCl [] U ∧ va_D (fun _ => True) [(m0, .inr (12, [.int 0, .ref l1, .ref l2, .int 0, .int 0, .int 0, .long 0]))] ∧ zB a0 (va_A [(m0, .inr (12, [.int 0, .ref l1, .ref l2, .int 0, .int 0, .int 0, .long 0]))] sz) U U.heap)) (va_Qi (fun (r : Int32) (_ : Unit) => r = 0) (fun _ t => va_P (dC, dI) vwCl [(m0, .inr (12, [.int 1, .ref l1, .ref l2, .int 0, .int 0, .int 0, .long 0]))] t.heap ∧ va_K (dC, dI) vwCl [] t ∧ va_D (va_A [(m0, .inr (12, [.int 0, .ref l1, .ref l2, .int 0, .int 0, .int 0, .long 0]))] sz) [(m0, .inr (12, [.int 1, .ref l1, .ref l2, .int 0, .int 0, .int 0, .long 0]))]) (va_A [(m0, .inr (12, [.int 0, .ref l1, .ref l2, .int 0, .int 0, .int 0, .long 0]))] sz)) 0 0 (va_A [(m0, .inr (12, [.int 0, .ref l1, .ref l2, .int 0, .int 0, .int 0, .long 0]))] sz) := by
  refine Met.ofW (cc := cX10_champion) (maxL := 2) (ret := (some .int)) (by decide) rfl ?_
  intro p e s m args below meth c s₁ B hml hv
  obtain ⟨rfl, hsz, hP, hK, hD0, hZ⟩ := hv
  have hx := B.exec
  have hb := B.bytes
  have hr := B.returns
  have hts := atoms_spec (ws := zs_c_X10_champion_no) B.pre
  have hown : s.vm.findClass RX10 = some m.cls := findClass_of_methodNamed B.named
  have hlocks := B.notSynchronized
  have hiX10 : ∀ w ∈ wsX100, w ∈ zs_c_X10_champion_no := by decide +kernel
  subst hsz
  have hD := hD0.self (sz := s.heap.size)
  generalize hAe : va_A [(m0, .inr (12, [.int 0, .ref l1, .ref l2, .int 0, .int 0, .int 0, .long 0]))] s.heap.size = A at hD hZ ⊢
  have hA : ∀ q : Nat, s.heap.size ≤ q → A q := fun q h => by rw [← hAe]; exact Or.inr h
  have hS : va_S A s.heap s.heap [] := va_S.rf
  have hl := lv_entry ([.ref m0, .int p0]) (n := 2) (Nat.le_of_ble_eq_true rfl)
  rw [lg_entry_eq]
  generalize (lg_sl ([.ref m0, .int p0]) ++ List.replicate (2 - (lg_sl ([.ref m0, .int p0])).length) Slot.unset).toArray = ls at hl ⊢
  have hl : lv_has ls 2 [(0, .ref m0), (1, .int p0)] := hl
  refine lv_aload_n hx hb dX10_champion_0 rfl (lv_at hl 0 rfl) ?_
  refine lv_iconst (v := 0) hx hb dX10_champion_1 (by decide) ?_
  refine va_put (D := (dC, dI)) (ci := 12) (v := .int 0) (ty := .int) (C := RX10) (T := TX10) (N := 7) hx hb hts hiX10 tyX10 tyX10_ok nmX10 hown hK hP hD hS 0 rfl rfl 0 (by decide) (hts (.fieldLink RX10 19 "HaltingaleModel" "thrown" "I") (by decide +kernel)) (fun _ h9 => h9) rfl (by decide +kernel) rfl rfl (Nat.le_of_ble_eq_true rfl) dX10_champion_2 (fun H locs hP hD hS => ?_)
  have hP : va_P (dC, dI) vwCl [(m0, .inr (12, [.int 0, .ref l1, .ref l2, .int 0, .int 0, .int 0, .long 0]))] H := hP
  have hD : va_D A [(m0, .inr (12, [.int 0, .ref l1, .ref l2, .int 0, .int 0, .int 0, .long 0]))] := hD
  refine lv_iload_n hx hb dX10_champion_5 rfl (lv_at hl 1 rfl) ?_
  refine lv_iconst (v := 0) hx hb dX10_champion_6 (by decide) ?_
  refine lv_iconst (v := 1) hx hb dX10_champion_7 (by decide) ?_
  have hPc := hP.sub (ws' := []) [] rfl
  have hDc := hD.sub (ws' := []) [] (by decide) rfl
  have hKc := hK.sub (tys' := []) [] rfl
  have hFc := va_free (wc := []) hD hS hA [] rfl
  have hZc := ((hZ.kept hS.2.1).narrow hFc)
  refine va_calli (va_runS (As := [.int p0, .int 0, .int 1]) (rest := []) ⟨hx, hb, hml, hown, hts⟩ (c_X10_is l hnt dC dI a0 p0 0 1 H.size ) (va_cwS 3 hts (goodIn_of _ (by decide +kernel)) rfl rfl rfl (by decide +kernel) ⟨Nat.le_of_ble_eq_true rfl, Nat.le_of_ble_eq_true rfl⟩) ⟨fun a U g mk q => by obtain ⟨q0, q1, qP, qK, qD, qZ⟩ := q; exact ⟨q0, q1, qP, va_K.moved (u := U) (U := U.calling g mk a) (Vm.Alike.refl U.vm) qK, qD, qZ.call⟩, fun U hU hW => ⟨rfl, by rw [hU], by rw [hU]; exact hPc, va_K.moved hW.alike hKc, hDc.weaken (fun _ _ _ _ => trivial), by rw [hU]; exact hZc.warm hW⟩⟩ rfl rfl hl.1 rfl (lv_room (Nat.le_of_ble_eq_true rfl)) dX10_champion_8 ⟨Nat.le_of_ble_eq_true rfl, Nat.le_of_ble_eq_true rfl⟩) hS (fun q _ h => hFc q h) hFc (fun r_1 u t H1 locs ht hvm hw hB hz1 hk1 hS => ?_)
  obtain ⟨hP1, hK1, hD1⟩ := hB
  rw [ht] at hP1
  have hK1 := va_K.moved hvm.symm hK1
  obtain ⟨hP, hD⟩ := va_join (wr := [(m0, .inr (12, [.int 0, .ref l1, .ref l2, .int 0, .int 0, .int 0, .long 0]))]) (w1 := []) hP hD [] [0] rfl rfl (by decide) (by decide) hk1 hFc hP1 hD1
  have hK := (hK.sub (tys' := []) [] rfl).app hK1
  generalize H1 = H at hP hS ⊢
  have hP : va_P (dC, dI) vwCl [(m0, .inr (12, [.int 0, .ref l1, .ref l2, .int 0, .int 0, .int 0, .long 0]))] H := hP
  have hD : va_D A [(m0, .inr (12, [.int 0, .ref l1, .ref l2, .int 0, .int 0, .int 0, .long 0]))] := hD
  have hK : va_K (dC, dI) vwCl [] s := hK
  refine W.widen (k := 0) (n := 0) (Nat.le_of_ble_eq_true rfl) (Nat.le_of_ble_eq_true rfl) ?_
  obtain rfl : r_1 = 0 := hw.trans (hp)
  refine lv_if_eq (tgt := 22) hx hb dX10_champion_11 (by decide) (fun c_2 => ?_) (fun c_2 => ?_)
  rotate_left
  · (first | exact absurd c_2 (by decide) | exact absurd (by decide) c_2)
  refine lv_aload_n hx hb dX10_champion_22 rfl (lv_at hl 0 rfl) ?_
  refine lv_iconst (v := 1) hx hb dX10_champion_23 (by decide) ?_
  have hPc := hP.sub (ws' := [(m0, .inr (12, [.int 0, .ref l1, .ref l2, .int 0, .int 0, .int 0, .long 0]))]) [0] rfl
  have hDc := hD.sub (ws' := [(m0, .inr (12, [.int 0, .ref l1, .ref l2, .int 0, .int 0, .int 0, .long 0]))]) [0] (by decide) rfl
  have hKc := hK.sub (tys' := []) [] rfl
  have hFc := va_free (wc := [(m0, .inr (12, [.int 0, .ref l1, .ref l2, .int 0, .int 0, .int 0, .long 0]))]) hD hS hA [0] rfl
  have hZc := ((hZ.kept hS.2.1).narrow hFc)
  refine va_calli (va_runV (As := [.int 1]) (rest := []) ⟨hx, hb, hml, hown, hts⟩ (c_X10_refuse l hnt dC dI a0 m0 l1 l2 1 H.size ) (cwV 1 hts (goodIn_of _ (by decide +kernel)) rfl rfl rfl (by decide +kernel) ⟨Nat.le_of_ble_eq_true rfl, Nat.le_of_ble_eq_true rfl⟩) ⟨fun a U g mk q => by obtain ⟨q0, q1, qP, qK, qD, qZ⟩ := q; exact ⟨q0, q1, qP, va_K.moved (u := U) (U := U.calling g mk a) (Vm.Alike.refl U.vm) qK, qD, qZ.call⟩, va_recv hKc hPc (ci := 12) (q0 := 0) rfl rfl, fun U hU hW => ⟨rfl, by rw [hU], by rw [hU]; exact hPc, va_K.moved hW.alike hKc, hDc.weaken (fun _ _ _ _ => trivial), by rw [hU]; exact hZc.warm hW⟩⟩ rfl rfl hl.1 rfl (lv_room (Nat.le_of_ble_eq_true rfl)) dX10_champion_24 ⟨Nat.le_of_ble_eq_true rfl, Nat.le_of_ble_eq_true rfl⟩) hS (fun q _ h => hFc q h) hFc (fun r_3 u t H1 locs ht hvm hw hB hz1 hk1 hS => ?_)
  obtain ⟨hP1, hK1, hD1⟩ := hB
  rw [ht] at hP1
  have hK1 := va_K.moved hvm.symm hK1
  obtain ⟨hP, hD⟩ := va_join (wr := []) (w1 := [(m0, .inr (12, [.int 1, .ref l1, .ref l2, .int 0, .int 0, .int 0, .long 0]))]) hP hD [0] [] rfl rfl (by decide) (by decide) hk1 hFc hP1 hD1
  have hK := (hK.sub (tys' := []) [] rfl).app hK1
  generalize H1 = H at hP hS ⊢
  have hP : va_P (dC, dI) vwCl [(m0, .inr (12, [.int 1, .ref l1, .ref l2, .int 0, .int 0, .int 0, .long 0]))] H := hP
  have hD : va_D A [(m0, .inr (12, [.int 1, .ref l1, .ref l2, .int 0, .int 0, .int 0, .long 0]))] := hD
  have hK : va_K (dC, dI) vwCl [] s := hK
  refine W.widen (k := 0) (n := 0) (Nat.le_of_ble_eq_true rfl) (Nat.le_of_ble_eq_true rfl) ?_
  obtain rfl : r_3 = 0 := hw
  have hP9 := hP.sub (ws' := [(m0, .inr (12, [.int 1, .ref l1, .ref l2, .int 0, .int 0, .int 0, .long 0]))]) [0] rfl
  have hD9 := hD.sub (ws' := [(m0, .inr (12, [.int 1, .ref l1, .ref l2, .int 0, .int 0, .int 0, .long 0]))]) [0] (by decide) rfl
  have hK9 := hK.sub (tys' := []) [] rfl
  refine W.widen (k := 0) (n := 0) (Nat.le_of_ble_eq_true rfl) (Nat.le_of_ble_eq_true rfl) ?_
  exact W.iret (v := 0) hx hb hr (fun t ht hW => ⟨⟨0, (), rfl, rfl, ⟨by rw [ht]; exact hP9, va_K.moved hW.alike hK9, hD9⟩⟩, hS.F ht⟩) hS.2.2 dX10_champion_27

def zs_c_X10_many_no : List Cond := .code yX10_many cX10_many 2 (some .int) :: (([.fieldLink RX10 19 "HaltingaleModel" "thrown" "I", .code yX10_is cX10_is 3 (some .boolean), .methodLink RX10 27 yX10_is, .static yX10_is, .initialized RX10, .code yX10_refuse cX10_refuse 2 (some .int), .methodLink RX10 31 yX10_refuse, .instanceMethod yX10_refuse, .selects RX10 yX10_refuse yX10_refuse] : List Cond) ++ wsX100)
set_option maxHeartbeats 4000000 in
set_option maxRecDepth 100000 in
/-- many, out of its range -/
theorem c_X10_many_no (l : Launch) (hnt : l.stackTraces = false) (dC : Nat → ClassId) (dI : Nat → Nat → Nat) (a0 : Nat) (m0 : Nat) (l1 : Nat) (l2 : Nat) (p0 : Int32) (sz : Nat) (hp : zw p0 0 10 = 0) : Met l yX10_many zs_c_X10_many_no ({ frames := 1, cells := 0, slots := 0, locals := 22 }) (va_Pc [.ref m0, .int p0] (fun U => U.heap.size = sz ∧ va_P (dC, dI) vwCl [(m0, .inr (12, [.int 0, .ref l1, .ref l2, .int 0, .int 0, .int 0, .long 0]))] U.heap ∧ va_K (dC, dI) vwCl [] U ∧ va_D (fun _ => True) [(m0, .inr (12, [.int 0, .ref l1, .ref l2, .int 0, .int 0, .int 0, .long 0]))] ∧ zB a0 (va_A [(m0, .inr (12, [.int 0, .ref l1, .ref l2, .int 0, .int 0, .int 0, .long 0]))] sz) U U.heap)) (va_Qi (fun (r : Int32) (_ : Unit) => r = 0) (fun _ t => va_P (dC, dI) vwCl [(m0, .inr (12, [.int 1, .ref l1, .ref l2, .int 0, .int 0, .int 0, .long 0]))] t.heap ∧ va_K (dC, dI) vwCl [] t ∧ va_D (va_A [(m0, .inr (12, [.int 0, .ref l1, .ref l2, .int 0, .int 0, .int 0, .long 0]))] sz) [(m0, .inr (12, [.int 1, .ref l1, .ref l2, .int 0, .int 0, .int 0, .long 0]))]) (va_A [(m0, .inr (12, [.int 0, .ref l1, .ref l2, .int 0, .int 0, .int 0, .long 0]))] sz)) 0 0 (va_A [(m0, .inr (12, [.int 0, .ref l1, .ref l2, .int 0, .int 0, .int 0, .long 0]))] sz) := by
  refine Met.ofW (cc := cX10_many) (maxL := 2) (ret := (some .int)) (by decide) rfl ?_
  intro p e s m args below meth c s₁ B hml hv
  obtain ⟨rfl, hsz, hP, hK, hD0, hZ⟩ := hv
  have hx := B.exec
  have hb := B.bytes
  have hr := B.returns
  have hts := atoms_spec (ws := zs_c_X10_many_no) B.pre
  have hown : s.vm.findClass RX10 = some m.cls := findClass_of_methodNamed B.named
  have hlocks := B.notSynchronized
  have hiX10 : ∀ w ∈ wsX100, w ∈ zs_c_X10_many_no := by decide +kernel
  subst hsz
  have hD := hD0.self (sz := s.heap.size)
  generalize hAe : va_A [(m0, .inr (12, [.int 0, .ref l1, .ref l2, .int 0, .int 0, .int 0, .long 0]))] s.heap.size = A at hD hZ ⊢
  have hA : ∀ q : Nat, s.heap.size ≤ q → A q := fun q h => by rw [← hAe]; exact Or.inr h
  have hS : va_S A s.heap s.heap [] := va_S.rf
  have hl := lv_entry ([.ref m0, .int p0]) (n := 2) (Nat.le_of_ble_eq_true rfl)
  rw [lg_entry_eq]
  generalize (lg_sl ([.ref m0, .int p0]) ++ List.replicate (2 - (lg_sl ([.ref m0, .int p0])).length) Slot.unset).toArray = ls at hl ⊢
  have hl : lv_has ls 2 [(0, .ref m0), (1, .int p0)] := hl
  refine lv_aload_n hx hb dX10_many_0 rfl (lv_at hl 0 rfl) ?_
  refine lv_iconst (v := 0) hx hb dX10_many_1 (by decide) ?_
  refine va_put (D := (dC, dI)) (ci := 12) (v := .int 0) (ty := .int) (C := RX10) (T := TX10) (N := 7) hx hb hts hiX10 tyX10 tyX10_ok nmX10 hown hK hP hD hS 0 rfl rfl 0 (by decide) (hts (.fieldLink RX10 19 "HaltingaleModel" "thrown" "I") (by decide +kernel)) (fun _ h9 => h9) rfl (by decide +kernel) rfl rfl (Nat.le_of_ble_eq_true rfl) dX10_many_2 (fun H locs hP hD hS => ?_)
  have hP : va_P (dC, dI) vwCl [(m0, .inr (12, [.int 0, .ref l1, .ref l2, .int 0, .int 0, .int 0, .long 0]))] H := hP
  have hD : va_D A [(m0, .inr (12, [.int 0, .ref l1, .ref l2, .int 0, .int 0, .int 0, .long 0]))] := hD
  refine lv_iload_n hx hb dX10_many_5 rfl (lv_at hl 1 rfl) ?_
  refine lv_iconst (v := 0) hx hb dX10_many_6 (by decide) ?_
  refine lv_bipush (v := 10) hx hb dX10_many_7 (by decide) ?_
  have hPc := hP.sub (ws' := []) [] rfl
  have hDc := hD.sub (ws' := []) [] (by decide) rfl
  have hKc := hK.sub (tys' := []) [] rfl
  have hFc := va_free (wc := []) hD hS hA [] rfl
  have hZc := ((hZ.kept hS.2.1).narrow hFc)
  refine va_calli (va_runS (As := [.int p0, .int 0, .int 10]) (rest := []) ⟨hx, hb, hml, hown, hts⟩ (c_X10_is l hnt dC dI a0 p0 0 10 H.size ) (va_cwS 3 hts (goodIn_of _ (by decide +kernel)) rfl rfl rfl (by decide +kernel) ⟨Nat.le_of_ble_eq_true rfl, Nat.le_of_ble_eq_true rfl⟩) ⟨fun a U g mk q => by obtain ⟨q0, q1, qP, qK, qD, qZ⟩ := q; exact ⟨q0, q1, qP, va_K.moved (u := U) (U := U.calling g mk a) (Vm.Alike.refl U.vm) qK, qD, qZ.call⟩, fun U hU hW => ⟨rfl, by rw [hU], by rw [hU]; exact hPc, va_K.moved hW.alike hKc, hDc.weaken (fun _ _ _ _ => trivial), by rw [hU]; exact hZc.warm hW⟩⟩ rfl rfl hl.1 rfl (lv_room (Nat.le_of_ble_eq_true rfl)) dX10_many_9 ⟨Nat.le_of_ble_eq_true rfl, Nat.le_of_ble_eq_true rfl⟩) hS (fun q _ h => hFc q h) hFc (fun r_1 u t H1 locs ht hvm hw hB hz1 hk1 hS => ?_)
  obtain ⟨hP1, hK1, hD1⟩ := hB
  rw [ht] at hP1
  have hK1 := va_K.moved hvm.symm hK1
  obtain ⟨hP, hD⟩ := va_join (wr := [(m0, .inr (12, [.int 0, .ref l1, .ref l2, .int 0, .int 0, .int 0, .long 0]))]) (w1 := []) hP hD [] [0] rfl rfl (by decide) (by decide) hk1 hFc hP1 hD1
  have hK := (hK.sub (tys' := []) [] rfl).app hK1
  generalize H1 = H at hP hS ⊢
  have hP : va_P (dC, dI) vwCl [(m0, .inr (12, [.int 0, .ref l1, .ref l2, .int 0, .int 0, .int 0, .long 0]))] H := hP
  have hD : va_D A [(m0, .inr (12, [.int 0, .ref l1, .ref l2, .int 0, .int 0, .int 0, .long 0]))] := hD
  have hK : va_K (dC, dI) vwCl [] s := hK
  refine W.widen (k := 0) (n := 0) (Nat.le_of_ble_eq_true rfl) (Nat.le_of_ble_eq_true rfl) ?_
  obtain rfl : r_1 = 0 := hw.trans (hp)
  refine lv_if_eq (tgt := 23) hx hb dX10_many_12 (by decide) (fun c_2 => ?_) (fun c_2 => ?_)
  rotate_left
  · (first | exact absurd c_2 (by decide) | exact absurd (by decide) c_2)
  refine lv_aload_n hx hb dX10_many_23 rfl (lv_at hl 0 rfl) ?_
  refine lv_iconst (v := 1) hx hb dX10_many_24 (by decide) ?_
  have hPc := hP.sub (ws' := [(m0, .inr (12, [.int 0, .ref l1, .ref l2, .int 0, .int 0, .int 0, .long 0]))]) [0] rfl
  have hDc := hD.sub (ws' := [(m0, .inr (12, [.int 0, .ref l1, .ref l2, .int 0, .int 0, .int 0, .long 0]))]) [0] (by decide) rfl
  have hKc := hK.sub (tys' := []) [] rfl
  have hFc := va_free (wc := [(m0, .inr (12, [.int 0, .ref l1, .ref l2, .int 0, .int 0, .int 0, .long 0]))]) hD hS hA [0] rfl
  have hZc := ((hZ.kept hS.2.1).narrow hFc)
  refine va_calli (va_runV (As := [.int 1]) (rest := []) ⟨hx, hb, hml, hown, hts⟩ (c_X10_refuse l hnt dC dI a0 m0 l1 l2 1 H.size ) (cwV 1 hts (goodIn_of _ (by decide +kernel)) rfl rfl rfl (by decide +kernel) ⟨Nat.le_of_ble_eq_true rfl, Nat.le_of_ble_eq_true rfl⟩) ⟨fun a U g mk q => by obtain ⟨q0, q1, qP, qK, qD, qZ⟩ := q; exact ⟨q0, q1, qP, va_K.moved (u := U) (U := U.calling g mk a) (Vm.Alike.refl U.vm) qK, qD, qZ.call⟩, va_recv hKc hPc (ci := 12) (q0 := 0) rfl rfl, fun U hU hW => ⟨rfl, by rw [hU], by rw [hU]; exact hPc, va_K.moved hW.alike hKc, hDc.weaken (fun _ _ _ _ => trivial), by rw [hU]; exact hZc.warm hW⟩⟩ rfl rfl hl.1 rfl (lv_room (Nat.le_of_ble_eq_true rfl)) dX10_many_25 ⟨Nat.le_of_ble_eq_true rfl, Nat.le_of_ble_eq_true rfl⟩) hS (fun q _ h => hFc q h) hFc (fun r_3 u t H1 locs ht hvm hw hB hz1 hk1 hS => ?_)
  obtain ⟨hP1, hK1, hD1⟩ := hB
  rw [ht] at hP1
  have hK1 := va_K.moved hvm.symm hK1
  obtain ⟨hP, hD⟩ := va_join (wr := []) (w1 := [(m0, .inr (12, [.int 1, .ref l1, .ref l2, .int 0, .int 0, .int 0, .long 0]))]) hP hD [0] [] rfl rfl (by decide) (by decide) hk1 hFc hP1 hD1
  have hK := (hK.sub (tys' := []) [] rfl).app hK1
  generalize H1 = H at hP hS ⊢
  have hP : va_P (dC, dI) vwCl [(m0, .inr (12, [.int 1, .ref l1, .ref l2, .int 0, .int 0, .int 0, .long 0]))] H := hP
  have hD : va_D A [(m0, .inr (12, [.int 1, .ref l1, .ref l2, .int 0, .int 0, .int 0, .long 0]))] := hD
  have hK : va_K (dC, dI) vwCl [] s := hK
  refine W.widen (k := 0) (n := 0) (Nat.le_of_ble_eq_true rfl) (Nat.le_of_ble_eq_true rfl) ?_
  obtain rfl : r_3 = 0 := hw
  have hP9 := hP.sub (ws' := [(m0, .inr (12, [.int 1, .ref l1, .ref l2, .int 0, .int 0, .int 0, .long 0]))]) [0] rfl
  have hD9 := hD.sub (ws' := [(m0, .inr (12, [.int 1, .ref l1, .ref l2, .int 0, .int 0, .int 0, .long 0]))]) [0] (by decide) rfl
  have hK9 := hK.sub (tys' := []) [] rfl
  refine W.widen (k := 0) (n := 0) (Nat.le_of_ble_eq_true rfl) (Nat.le_of_ble_eq_true rfl) ?_
  exact W.iret (v := 0) hx hb hr (fun t ht hW => ⟨⟨0, (), rfl, rfl, ⟨by rw [ht]; exact hP9, va_K.moved hW.alike hK9, hD9⟩⟩, hS.F ht⟩) hS.2.2 dX10_many_28

def zs_c_X10_doubt_ok : List Cond := .code yX10_doubt cX10_doubt 5 (some .int) :: (([.fieldLink RX10 19 "HaltingaleModel" "thrown" "I", .code yX10_is cX10_is 3 (some .boolean), .methodLink RX10 27 yX10_is, .static yX10_is, .initialized RX10, .fieldLink RX10 10 "HaltingaleModel" "machines" "Ljava/util/ArrayList;", .code yJx4a65c_iterator_32c93 cJx4a65c_iterator_32c93 1 (some (.object "java/util/Iterator")), .classLink RJx4a65c 267 RJx35411, .instantiable RJx35411 4, .initialized RJx35411, .code yJx35411_init_45d68 cJx35411_init_45d68 2 none, .fieldLink RJx35411 1 "java/util/ArrayList$Itr" "this$0" "Ljava/util/ArrayList;", .methodLink RJx35411 7 objectInit, .instanceMethod objectInit, .code objectInit ⟨#[0xb1]⟩ 1 none, .fieldLink RJx35411 13 "java/util/ArrayList$Itr" "lastRet" "I", .sameField "java/util/ArrayList" "java/util/AbstractList" "modCount" "I", .fieldLink RJx35411 17 "java/util/ArrayList" "modCount" "I", .fieldLink RJx35411 22 "java/util/ArrayList$Itr" "expectedModCount" "I", .methodLink RJx4a65c 269 yJx35411_init_45d68, .instanceMethod yJx35411_init_45d68, .methodLink RX10 158 yJx4a65c_iterator_32c93, .instanceMethod yJx4a65c_iterator_32c93, .initialized RJx4a65c, .selects RJx4a65c yJx4a65c_iterator_32c93 yJx4a65c_iterator_32c93, .code yJx35411_hasNext_aae02 cJx35411_hasNext_aae02 1 (some .boolean), .fieldLink RJx35411 25 "java/util/ArrayList$Itr" "cursor" "I", .methodLink RX10 162 ⟨"java/util/Iterator", "hasNext", "()Z"⟩, .instanceMethod yJx35411_hasNext_aae02, .selects RJx35411 ⟨"java/util/Iterator", "hasNext", "()Z"⟩ yJx35411_hasNext_aae02, .fieldLink RX10 67 "HaltingaleModel" "back" "I"] : List Cond) ++ wsX100 ++ wsJx354110 ++ wsJx4a65c0)
set_option maxHeartbeats 4000000 in
set_option maxRecDepth 100000 in
/-- doubt of no machine -/
theorem c_X10_doubt_ok (l : Launch) (hnt : l.stackTraces = false) (dC : Nat → ClassId) (dI : Nat → Nat → Nat) (a0 : Nat) (m0 : Nat) (l1 : Nat) (l2 : Nat) (p0 : Int32) (sz : Nat) (hp : zw p0 0 3 = 1) : Met l yX10_doubt zs_c_X10_doubt_ok ({ frames := 3, cells := 1, slots := 4, locals := 53 }) (va_Pc [.ref m0, .int p0] (fun U => U.heap.size = sz ∧ va_P (dC, dI) vwCl [(m0, .inr (12, [.int 0, .ref l1, .ref l2, .int 0, .int 0, .int 0, .long 0])), (l1, .inr (1, [.int 0, .ref a0, .int 0]))] U.heap ∧ va_K (dC, dI) vwCl [] U ∧ va_D (fun _ => True) [(m0, .inr (12, [.int 0, .ref l1, .ref l2, .int 0, .int 0, .int 0, .long 0])), (l1, .inr (1, [.int 0, .ref a0, .int 0]))] ∧ zB a0 (va_A [(m0, .inr (12, [.int 0, .ref l1, .ref l2, .int 0, .int 0, .int 0, .long 0])), (l1, .inr (1, [.int 0, .ref a0, .int 0]))] sz) U U.heap)) (va_Qi (fun (r : Int32) (_ : Unit) => r = 0) (fun _ t => va_P (dC, dI) vwCl [(m0, .inr (12, [.int 0, .ref l1, .ref l2, .int 0, .int 0, .int 0, .long 0]))] t.heap ∧ va_K (dC, dI) vwCl [] t ∧ va_D (va_A [(m0, .inr (12, [.int 0, .ref l1, .ref l2, .int 0, .int 0, .int 0, .long 0])), (l1, .inr (1, [.int 0, .ref a0, .int 0]))] sz) [(m0, .inr (12, [.int 0, .ref l1, .ref l2, .int 0, .int 0, .int 0, .long 0]))]) (va_A [(m0, .inr (12, [.int 0, .ref l1, .ref l2, .int 0, .int 0, .int 0, .long 0])), (l1, .inr (1, [.int 0, .ref a0, .int 0]))] sz)) 1 4 (va_A [(m0, .inr (12, [.int 0, .ref l1, .ref l2, .int 0, .int 0, .int 0, .long 0])), (l1, .inr (1, [.int 0, .ref a0, .int 0]))] sz) := by
  refine Met.ofW (cc := cX10_doubt) (maxL := 5) (ret := (some .int)) (by decide) rfl ?_
  intro p e s m args below meth c s₁ B hml hv
  obtain ⟨rfl, hsz, hP, hK, hD0, hZ⟩ := hv
  have hx := B.exec
  have hb := B.bytes
  have hr := B.returns
  have hts := atoms_spec (ws := zs_c_X10_doubt_ok) B.pre
  have hown : s.vm.findClass RX10 = some m.cls := findClass_of_methodNamed B.named
  have hlocks := B.notSynchronized
  have hiX10 : ∀ w ∈ wsX100, w ∈ zs_c_X10_doubt_ok := by decide +kernel
  subst hsz
  have hD := hD0.self (sz := s.heap.size)
  generalize hAe : va_A [(m0, .inr (12, [.int 0, .ref l1, .ref l2, .int 0, .int 0, .int 0, .long 0])), (l1, .inr (1, [.int 0, .ref a0, .int 0]))] s.heap.size = A at hD hZ ⊢
  have hA : ∀ q : Nat, s.heap.size ≤ q → A q := fun q h => by rw [← hAe]; exact Or.inr h
  have hS : va_S A s.heap s.heap [] := va_S.rf
  have hl := lv_entry ([.ref m0, .int p0]) (n := 5) (Nat.le_of_ble_eq_true rfl)
  rw [lg_entry_eq]
  generalize (lg_sl ([.ref m0, .int p0]) ++ List.replicate (5 - (lg_sl ([.ref m0, .int p0])).length) Slot.unset).toArray = ls at hl ⊢
  have hl : lv_has ls 5 [(0, .ref m0), (1, .int p0)] := hl
  refine lv_aload_n hx hb dX10_doubt_0 rfl (lv_at hl 0 rfl) ?_
  refine lv_iconst (v := 0) hx hb dX10_doubt_1 (by decide) ?_
  refine va_put (D := (dC, dI)) (ci := 12) (v := .int 0) (ty := .int) (C := RX10) (T := TX10) (N := 7) hx hb hts hiX10 tyX10 tyX10_ok nmX10 hown hK hP hD hS 0 rfl rfl 0 (by decide) (hts (.fieldLink RX10 19 "HaltingaleModel" "thrown" "I") (by decide +kernel)) (fun _ h9 => h9) rfl (by decide +kernel) rfl rfl (Nat.le_of_ble_eq_true rfl) dX10_doubt_2 (fun H locs hP hD hS => ?_)
  have hP : va_P (dC, dI) vwCl [(m0, .inr (12, [.int 0, .ref l1, .ref l2, .int 0, .int 0, .int 0, .long 0])), (l1, .inr (1, [.int 0, .ref a0, .int 0]))] H := hP
  have hD : va_D A [(m0, .inr (12, [.int 0, .ref l1, .ref l2, .int 0, .int 0, .int 0, .long 0])), (l1, .inr (1, [.int 0, .ref a0, .int 0]))] := hD
  refine lv_iload_n hx hb dX10_doubt_5 rfl (lv_at hl 1 rfl) ?_
  refine lv_iconst (v := 0) hx hb dX10_doubt_6 (by decide) ?_
  refine lv_iconst (v := 3) hx hb dX10_doubt_7 (by decide) ?_
  have hPc := hP.sub (ws' := []) [] rfl
  have hDc := hD.sub (ws' := []) [] (by decide) rfl
  have hKc := hK.sub (tys' := []) [] rfl
  have hFc := va_free (wc := []) hD hS hA [] rfl
  have hZc := ((hZ.kept hS.2.1).narrow hFc)
  refine va_calli (va_runS (As := [.int p0, .int 0, .int 3]) (rest := []) ⟨hx, hb, hml, hown, hts⟩ (c_X10_is l hnt dC dI a0 p0 0 3 H.size ) (va_cwS 3 hts (goodIn_of _ (by decide +kernel)) rfl rfl rfl (by decide +kernel) ⟨Nat.le_of_ble_eq_true rfl, Nat.le_of_ble_eq_true rfl⟩) ⟨fun a U g mk q => by obtain ⟨q0, q1, qP, qK, qD, qZ⟩ := q; exact ⟨q0, q1, qP, va_K.moved (u := U) (U := U.calling g mk a) (Vm.Alike.refl U.vm) qK, qD, qZ.call⟩, fun U hU hW => ⟨rfl, by rw [hU], by rw [hU]; exact hPc, va_K.moved hW.alike hKc, hDc.weaken (fun _ _ _ _ => trivial), by rw [hU]; exact hZc.warm hW⟩⟩ rfl rfl hl.1 rfl (lv_room (Nat.le_of_ble_eq_true rfl)) dX10_doubt_8 ⟨Nat.le_of_ble_eq_true rfl, Nat.le_of_ble_eq_true rfl⟩) hS (fun q _ h => hFc q h) hFc (fun r_1 u t H1 locs ht hvm hw hB hz1 hk1 hS => ?_)
  obtain ⟨hP1, hK1, hD1⟩ := hB
  rw [ht] at hP1
  have hK1 := va_K.moved hvm.symm hK1
  obtain ⟨hP, hD⟩ := va_join (wr := [(m0, .inr (12, [.int 0, .ref l1, .ref l2, .int 0, .int 0, .int 0, .long 0])), (l1, .inr (1, [.int 0, .ref a0, .int 0]))]) (w1 := []) hP hD [] [0, 1] rfl rfl (by decide) (by decide) hk1 hFc hP1 hD1
  have hK := (hK.sub (tys' := []) [] rfl).app hK1
  generalize H1 = H at hP hS ⊢
  have hP : va_P (dC, dI) vwCl [(m0, .inr (12, [.int 0, .ref l1, .ref l2, .int 0, .int 0, .int 0, .long 0])), (l1, .inr (1, [.int 0, .ref a0, .int 0]))] H := hP
  have hD : va_D A [(m0, .inr (12, [.int 0, .ref l1, .ref l2, .int 0, .int 0, .int 0, .long 0])), (l1, .inr (1, [.int 0, .ref a0, .int 0]))] := hD
  have hK : va_K (dC, dI) vwCl [] s := hK
  refine W.widen (k := 0) (n := 0) (Nat.le_of_ble_eq_true rfl) (Nat.le_of_ble_eq_true rfl) ?_
  obtain rfl : r_1 = 1 := hw.trans (hp)
  refine lv_if_ne (tgt := 20) hx hb dX10_doubt_11 (by decide) (fun c_2 => ?_) (fun c_2 => ?_)
  rotate_left
  · (first | exact absurd c_2 (by decide) | exact absurd (by decide) c_2)
  refine lv_iconst (v := 0) hx hb dX10_doubt_20 (by decide) ?_
  refine lv_istore_n (lv' := [(2, .int 0), (0, .ref m0), (1, .int p0)]) hx hb dX10_doubt_21 rfl hl (by decide) rfl (fun ls hl => ?_)
  refine lv_aload_n hx hb dX10_doubt_22 rfl (lv_at hl 1 rfl) ?_
  refine va_get (D := (dC, dI)) (ci := 12) (v := .ref l1) (C := RX10) (T := TX10) (N := 7) hx hb hts hiX10 hown hK hP 0 rfl rfl 1 (by decide) (hts (.fieldLink RX10 10 "HaltingaleModel" "machines" "Ljava/util/ArrayList;") (by decide +kernel)) (fun _ h9 => h9) rfl dX10_doubt_23 ?_
  have hPc := hP.sub (ws' := [(l1, .inr (1, [.int 0, .ref a0, .int 0]))]) [1] rfl
  have hDc := hD.sub (ws' := [(l1, .inr (1, [.int 0, .ref a0, .int 0]))]) [1] (by decide) rfl
  have hKc := hK.sub (tys' := []) [] rfl
  have hFc := va_free (wc := [(l1, .inr (1, [.int 0, .ref a0, .int 0]))]) hD hS hA [1] rfl
  have hZc := ((hZ.kept hS.2.1).narrow hFc)
  refine va_callr (va_runV (As := []) (rest := []) ⟨hx, hb, hml, hown, hts⟩ (c_Jx4a65c_iterator_32c93 l hnt dC dI a0 l1 H.size ) (cwV 0 hts (goodIn_of _ (by decide +kernel)) rfl rfl rfl (by decide +kernel) ⟨Nat.le_of_ble_eq_true rfl, Nat.le_of_ble_eq_true rfl⟩) ⟨fun a U g mk q => by obtain ⟨q0, q1, qP, qK, qD, qZ⟩ := q; exact ⟨q0, q1, qP, va_K.moved (u := U) (U := U.calling g mk a) (Vm.Alike.refl U.vm) qK, qD, qZ.call⟩, va_recv hKc hPc (ci := 1) (q0 := 0) rfl rfl, fun U hU hW => ⟨rfl, by rw [hU], by rw [hU]; exact hPc, va_K.moved hW.alike hKc, hDc.weaken (fun _ _ _ _ => trivial), by rw [hU]; exact hZc.warm hW⟩⟩ rfl rfl hl.1 rfl (lv_room (Nat.le_of_ble_eq_true rfl)) dX10_doubt_26 ⟨Nat.le_of_ble_eq_true rfl, Nat.le_of_ble_eq_true rfl⟩) hS (fun q _ h => hFc q h) hFc (fun u r_3 t H1 locs ht hvm hw hB hz1 hk1 hS => ?_)
  obtain ⟨hP1, hK1, hD1⟩ := hB
  rw [ht] at hP1
  have hK1 := va_K.moved hvm.symm hK1
  obtain ⟨hP, hD⟩ := va_join (wr := [(m0, .inr (12, [.int 0, .ref l1, .ref l2, .int 0, .int 0, .int 0, .long 0]))]) (w1 := [(r_3, .inr (0, [.int 0, .int (-1), .int 0, .ref l1])), (l1, .inr (1, [.int 0, .ref a0, .int 0]))]) hP hD [1] [0] rfl rfl (by decide) (by decide) hk1 hFc hP1 hD1
  have hK := (hK.sub (tys' := []) [] rfl).app hK1
  generalize H1 = H at hP hS ⊢
  have hP : va_P (dC, dI) vwCl [(m0, .inr (12, [.int 0, .ref l1, .ref l2, .int 0, .int 0, .int 0, .long 0])), (r_3, .inr (0, [.int 0, .int (-1), .int 0, .ref l1])), (l1, .inr (1, [.int 0, .ref a0, .int 0]))] H := hP
  have hD : va_D A [(m0, .inr (12, [.int 0, .ref l1, .ref l2, .int 0, .int 0, .int 0, .long 0])), (r_3, .inr (0, [.int 0, .int (-1), .int 0, .ref l1])), (l1, .inr (1, [.int 0, .ref a0, .int 0]))] := hD
  have hK : va_K (dC, dI) vwCl [] s := hK
  refine W.widen (k := 1) (n := 4) (Nat.le_of_ble_eq_true rfl) (Nat.le_of_ble_eq_true rfl) ?_
  refine lv_astore_n (lv' := [(3, .ref r_3), (2, .int 0), (0, .ref m0), (1, .int p0)]) hx hb dX10_doubt_29 rfl hl (by decide) rfl (fun ls hl => ?_)
  refine lv_aload_n hx hb dX10_doubt_30 rfl (lv_at hl 0 rfl) ?_
  have hPc := hP.sub (ws' := [(r_3, .inr (0, [.int 0, .int (-1), .int 0, .ref l1])), (l1, .inr (1, [.int 0, .ref a0, .int 0]))]) [1, 2] rfl
  have hDc := hD.sub (ws' := [(r_3, .inr (0, [.int 0, .int (-1), .int 0, .ref l1])), (l1, .inr (1, [.int 0, .ref a0, .int 0]))]) [1, 2] (by decide) rfl
  have hKc := hK.sub (tys' := []) [] rfl
  have hFc := va_free (wc := [(r_3, .inr (0, [.int 0, .int (-1), .int 0, .ref l1])), (l1, .inr (1, [.int 0, .ref a0, .int 0]))]) hD hS hA [1, 2] rfl
  have hZc := ((hZ.kept hS.2.1).narrow hFc)
  refine va_callFi (va_runF (As := []) (rest := []) (zz_at hK 0 rfl) ⟨hx, hb, hml, hown, hts⟩ (c_Jx35411_hasNext_aae02 l hnt dC dI a0 r_3 l1 H.size ) (va_cwF 0 hts (goodIn_of _ (by decide +kernel)) rfl rfl rfl hZ.fwN (by decide +kernel) ⟨Nat.le_of_ble_eq_true rfl, Nat.le_of_ble_eq_true rfl⟩) ⟨fun a U g mk q => by obtain ⟨q0, q1, qP, qK, qD, qZ⟩ := q; exact ⟨q0, q1, qP, va_K.moved (u := U) (U := U.calling g mk a) (Vm.Alike.refl U.vm) qK, qD, qZ.call⟩, va_recv hKc hPc (ci := 0) (q0 := 0) rfl rfl, fun U hU hW => ⟨rfl, by rw [hU], by rw [hU]; exact hPc, va_K.moved hW.alike hKc, hDc.weaken (fun _ _ _ _ => trivial), by rw [hU]; exact hZc.warm hW⟩⟩ rfl rfl hl.1 rfl (lv_room (Nat.le_of_ble_eq_true rfl)) dX10_doubt_31 ⟨Nat.le_of_ble_eq_true rfl, Nat.le_of_ble_eq_true rfl⟩) hS (fun q _ h => hFc q h) hFc (fun r_4 u t H1 locs ht hvm hw hB hz1 hk1 hS => ?_)
  obtain ⟨hP1, hK1, hD1⟩ := hB
  rw [ht] at hP1
  have hK1 := va_K.moved hvm.symm hK1
  obtain ⟨hP, hD⟩ := va_join (wr := [(m0, .inr (12, [.int 0, .ref l1, .ref l2, .int 0, .int 0, .int 0, .long 0]))]) (w1 := [(r_3, .inr (0, [.int 0, .int (-1), .int 0, .ref l1])), (l1, .inr (1, [.int 0, .ref a0, .int 0]))]) hP hD [1, 2] [0] rfl rfl (by decide) (by decide) hk1 hFc hP1 hD1
  have hK := (hK.sub (tys' := []) [] rfl).app hK1
  generalize H1 = H at hP hS ⊢
  have hP : va_P (dC, dI) vwCl [(m0, .inr (12, [.int 0, .ref l1, .ref l2, .int 0, .int 0, .int 0, .long 0])), (r_3, .inr (0, [.int 0, .int (-1), .int 0, .ref l1])), (l1, .inr (1, [.int 0, .ref a0, .int 0]))] H := hP
  have hD : va_D A [(m0, .inr (12, [.int 0, .ref l1, .ref l2, .int 0, .int 0, .int 0, .long 0])), (r_3, .inr (0, [.int 0, .int (-1), .int 0, .ref l1])), (l1, .inr (1, [.int 0, .ref a0, .int 0]))] := hD
  have hK : va_K (dC, dI) vwCl [] s := hK
  refine W.widen (k := 1) (n := 4) (Nat.le_of_ble_eq_true rfl) (Nat.le_of_ble_eq_true rfl) ?_
  obtain rfl : r_4 = 0 := hw
  refine lv_if_eq (tgt := 78) hx hb dX10_doubt_36 (by decide) (fun c_5 => ?_) (fun c_5 => ?_)
  rotate_left
  · (first | exact absurd c_5 (by decide) | exact absurd (by decide) c_5)
  refine lv_aload_n hx hb dX10_doubt_78 rfl (lv_at hl 2 rfl) ?_
  refine lv_dup hx hb dX10_doubt_79 rfl ?_
  refine va_get (D := (dC, dI)) (ci := 12) (v := .int 0) (C := RX10) (T := TX10) (N := 7) hx hb hts hiX10 hown hK hP 0 rfl rfl 5 (by decide) (hts (.fieldLink RX10 67 "HaltingaleModel" "back" "I") (by decide +kernel)) (fun _ h9 => h9) rfl dX10_doubt_80 ?_
  refine lv_iload_n hx hb dX10_doubt_83 rfl (lv_at hl 1 rfl) ?_
  refine lv_iadd hx hb dX10_doubt_84 ?_
  refine lv_topi (fun x_6 ex_6 => ?_)
  obtain rfl : x_6 = 0 := ex_6.trans (by decide)
  refine va_put (D := (dC, dI)) (ci := 12) (v := .int 0) (ty := .int) (C := RX10) (T := TX10) (N := 7) hx hb hts hiX10 tyX10 tyX10_ok nmX10 hown hK hP hD hS 0 rfl rfl 5 (by decide) (hts (.fieldLink RX10 67 "HaltingaleModel" "back" "I") (by decide +kernel)) (fun _ h9 => h9) rfl (by decide +kernel) rfl rfl (Nat.le_of_ble_eq_true rfl) dX10_doubt_85 (fun H locs hP hD hS => ?_)
  have hP : va_P (dC, dI) vwCl [(m0, .inr (12, [.int 0, .ref l1, .ref l2, .int 0, .int 0, .int 0, .long 0])), (r_3, .inr (0, [.int 0, .int (-1), .int 0, .ref l1])), (l1, .inr (1, [.int 0, .ref a0, .int 0]))] H := hP
  have hD : va_D A [(m0, .inr (12, [.int 0, .ref l1, .ref l2, .int 0, .int 0, .int 0, .long 0])), (r_3, .inr (0, [.int 0, .int (-1), .int 0, .ref l1])), (l1, .inr (1, [.int 0, .ref a0, .int 0]))] := hD
  refine lv_iload_n hx hb dX10_doubt_88 rfl (lv_at hl 1 rfl) ?_
  have hP9 := hP.sub (ws' := [(m0, .inr (12, [.int 0, .ref l1, .ref l2, .int 0, .int 0, .int 0, .long 0]))]) [0] rfl
  have hD9 := hD.sub (ws' := [(m0, .inr (12, [.int 0, .ref l1, .ref l2, .int 0, .int 0, .int 0, .long 0]))]) [0] (by decide) rfl
  have hK9 := hK.sub (tys' := []) [] rfl
  refine W.widen (k := 1) (n := 4) (Nat.le_of_ble_eq_true rfl) (Nat.le_of_ble_eq_true rfl) ?_
  exact W.iret (v := 0) hx hb hr (fun t ht hW => ⟨⟨0, (), rfl, rfl, ⟨by rw [ht]; exact hP9, va_K.moved hW.alike hK9, hD9⟩⟩, hS.F ht⟩) hS.2.2 dX10_doubt_89

def zs_c_X10_championNow : List Cond := .code yX10_championNow cX10_championNow 7 (some .int) :: (([.fieldLink RX10 10 "HaltingaleModel" "machines" "Ljava/util/ArrayList;", .code yJx4a65c_size_8abf5 cJx4a65c_size_8abf5 1 (some .int), .fieldLink RJx4a65c 48 "java/util/ArrayList" "size" "I", .methodLink RX10 23 yJx4a65c_size_8abf5, .instanceMethod yJx4a65c_size_8abf5, .initialized RJx4a65c, .selects RJx4a65c yJx4a65c_size_8abf5 yJx4a65c_size_8abf5] : List Cond) ++ wsX100 ++ wsJx4a65c0)
set_option maxHeartbeats 4000000 in
set_option maxRecDepth 100000 in
/-- no champion -/
theorem c_X10_championNow (l : Launch) (hnt : l.stackTraces = false) (dC : Nat → ClassId) (dI : Nat → Nat → Nat) (a0 : Nat) (m0 : Nat) (l1 : Nat) (l2 : Nat) (p0 : Int32) (s0 : Int64) (sz : Nat)  : Met l yX10_championNow zs_c_X10_championNow ({ frames := 1, cells := 0, slots := 0, locals := 20 }) (va_Pc [.ref m0, .int p0] (fun U => U.heap.size = sz ∧ va_P (dC, dI) vwCl [(m0, .inr (12, [.int 0, .ref l1, .ref l2, .int 0, .int 0, .int 0, .long s0])), (l1, .inr (1, [.int 0, .ref a0, .int 0]))] U.heap ∧ va_K (dC, dI) vwCl [] U ∧ va_D (fun _ => True) [(m0, .inr (12, [.int 0, .ref l1, .ref l2, .int 0, .int 0, .int 0, .long s0])), (l1, .inr (1, [.int 0, .ref a0, .int 0]))] ∧ zB a0 (va_A [(m0, .inr (12, [.int 0, .ref l1, .ref l2, .int 0, .int 0, .int 0, .long s0])), (l1, .inr (1, [.int 0, .ref a0, .int 0]))] sz) U U.heap)) (va_Qi (fun (r : Int32) (_ : Unit) => r = (-1)) (fun _ t => va_P (dC, dI) vwCl [(m0, .inr (12, [.int 0, .ref l1, .ref l2, .int 0, .int 0, .int 0, .long s0])), (l1, .inr (1, [.int 0, .ref a0, .int 0]))] t.heap ∧ va_K (dC, dI) vwCl [] t ∧ va_D (va_A [(m0, .inr (12, [.int 0, .ref l1, .ref l2, .int 0, .int 0, .int 0, .long s0])), (l1, .inr (1, [.int 0, .ref a0, .int 0]))] sz) [(m0, .inr (12, [.int 0, .ref l1, .ref l2, .int 0, .int 0, .int 0, .long s0])), (l1, .inr (1, [.int 0, .ref a0, .int 0]))]) (va_A [(m0, .inr (12, [.int 0, .ref l1, .ref l2, .int 0, .int 0, .int 0, .long s0])), (l1, .inr (1, [.int 0, .ref a0, .int 0]))] sz)) 0 0 (va_A [(m0, .inr (12, [.int 0, .ref l1, .ref l2, .int 0, .int 0, .int 0, .long s0])), (l1, .inr (1, [.int 0, .ref a0, .int 0]))] sz) := by
  refine Met.ofW (cc := cX10_championNow) (maxL := 7) (ret := (some .int)) (by decide) rfl ?_
  intro p e s m args below meth c s₁ B hml hv
  obtain ⟨rfl, hsz, hP, hK, hD0, hZ⟩ := hv
  have hx := B.exec
  have hb := B.bytes
  have hr := B.returns
  have hts := atoms_spec (ws := zs_c_X10_championNow) B.pre
  have hown : s.vm.findClass RX10 = some m.cls := findClass_of_methodNamed B.named
  have hlocks := B.notSynchronized
  have hiX10 : ∀ w ∈ wsX100, w ∈ zs_c_X10_championNow := by decide +kernel
  subst hsz
  have hD := hD0.self (sz := s.heap.size)
  generalize hAe : va_A [(m0, .inr (12, [.int 0, .ref l1, .ref l2, .int 0, .int 0, .int 0, .long s0])), (l1, .inr (1, [.int 0, .ref a0, .int 0]))] s.heap.size = A at hD hZ ⊢
  have hA : ∀ q : Nat, s.heap.size ≤ q → A q := fun q h => by rw [← hAe]; exact Or.inr h
  have hS : va_S A s.heap s.heap [] := va_S.rf
  have hl := lv_entry ([.ref m0, .int p0]) (n := 7) (Nat.le_of_ble_eq_true rfl)
  rw [lg_entry_eq]
  generalize (lg_sl ([.ref m0, .int p0]) ++ List.replicate (7 - (lg_sl ([.ref m0, .int p0])).length) Slot.unset).toArray = ls at hl ⊢
  have hl : lv_has ls 7 [(0, .ref m0), (1, .int p0)] := hl
  refine lv_iconst (v := (-1)) hx hb dX10_championNow_0 (by decide) ?_
  refine lv_istore_n (lv' := [(2, .int (-1)), (0, .ref m0), (1, .int p0)]) hx hb dX10_championNow_1 rfl hl (by decide) rfl (fun ls hl => ?_)
  refine lv_iconst (v := (-1)) hx hb dX10_championNow_2 (by decide) ?_
  refine lv_istore_n (lv' := [(3, .int (-1)), (2, .int (-1)), (0, .ref m0), (1, .int p0)]) hx hb dX10_championNow_3 rfl hl (by decide) rfl (fun ls hl => ?_)
  refine lv_iconst (v := 0) hx hb dX10_championNow_4 (by decide) ?_
  refine lv_istore (lv' := [(4, .int 0), (3, .int (-1)), (2, .int (-1)), (0, .ref m0), (1, .int p0)]) hx hb dX10_championNow_5 hl (by decide) rfl (fun ls hl => ?_)
  refine lv_iload hx hb dX10_championNow_7 (lv_at hl 0 rfl) ?_
  refine lv_aload_n hx hb dX10_championNow_9 rfl (lv_at hl 3 rfl) ?_
  refine va_get (D := (dC, dI)) (ci := 12) (v := .ref l1) (C := RX10) (T := TX10) (N := 7) hx hb hts hiX10 hown hK hP 0 rfl rfl 1 (by decide) (hts (.fieldLink RX10 10 "HaltingaleModel" "machines" "Ljava/util/ArrayList;") (by decide +kernel)) (fun _ h9 => h9) rfl dX10_championNow_10 ?_
  have hPc := hP.sub (ws' := [(l1, .inr (1, [.int 0, .ref a0, .int 0]))]) [1] rfl
  have hDc := hD.sub (ws' := [(l1, .inr (1, [.int 0, .ref a0, .int 0]))]) [1] (by decide) rfl
  have hKc := hK.sub (tys' := []) [] rfl
  have hFc := va_free (wc := [(l1, .inr (1, [.int 0, .ref a0, .int 0]))]) hD hS hA [1] rfl
  have hZc := ((hZ.kept hS.2.1).narrow hFc)
  refine va_calli (va_runV (As := []) (rest := [.int 0]) ⟨hx, hb, hml, hown, hts⟩ (c_Jx4a65c_size_8abf5 l hnt dC dI a0 l1 0 a0 0 s.heap.size ) (cwV 0 hts (goodIn_of _ (by decide +kernel)) rfl rfl rfl (by decide +kernel) ⟨Nat.le_of_ble_eq_true rfl, Nat.le_of_ble_eq_true rfl⟩) ⟨fun a U g mk q => by obtain ⟨q0, q1, qP, qK, qD, qZ⟩ := q; exact ⟨q0, q1, qP, va_K.moved (u := U) (U := U.calling g mk a) (Vm.Alike.refl U.vm) qK, qD, qZ.call⟩, va_recv hKc hPc (ci := 1) (q0 := 0) rfl rfl, fun U hU hW => ⟨rfl, by rw [hU], by rw [hU]; exact hPc, va_K.moved hW.alike hKc, hDc.weaken (fun _ _ _ _ => trivial), by rw [hU]; exact hZc.warm hW⟩⟩ rfl rfl hl.1 rfl (lv_room (Nat.le_of_ble_eq_true rfl)) dX10_championNow_13 ⟨Nat.le_of_ble_eq_true rfl, Nat.le_of_ble_eq_true rfl⟩) hS (fun q _ h => hFc q h) hFc (fun r_1 u t H1 locs ht hvm hw hB hz1 hk1 hS => ?_)
  obtain ⟨hP1, hK1, hD1⟩ := hB
  rw [ht] at hP1
  have hK1 := va_K.moved hvm.symm hK1
  obtain ⟨hP, hD⟩ := va_join (wr := [(m0, .inr (12, [.int 0, .ref l1, .ref l2, .int 0, .int 0, .int 0, .long s0]))]) (w1 := [(l1, .inr (1, [.int 0, .ref a0, .int 0]))]) hP hD [1] [0] rfl rfl (by decide) (by decide) hk1 hFc hP1 hD1
  have hK := (hK.sub (tys' := []) [] rfl).app hK1
  generalize H1 = H at hP hS ⊢
  have hP : va_P (dC, dI) vwCl [(m0, .inr (12, [.int 0, .ref l1, .ref l2, .int 0, .int 0, .int 0, .long s0])), (l1, .inr (1, [.int 0, .ref a0, .int 0]))] H := hP
  have hD : va_D A [(m0, .inr (12, [.int 0, .ref l1, .ref l2, .int 0, .int 0, .int 0, .long s0])), (l1, .inr (1, [.int 0, .ref a0, .int 0]))] := hD
  have hK : va_K (dC, dI) vwCl [] s := hK
  refine W.widen (k := 0) (n := 0) (Nat.le_of_ble_eq_true rfl) (Nat.le_of_ble_eq_true rfl) ?_
  obtain rfl : r_1 = 0 := hw
  refine lv_icmp_ge (tgt := 78) hx hb dX10_championNow_16 (by decide) (fun c_2 => ?_) (fun c_2 => ?_)
  rotate_left
  · (first | exact absurd c_2 (by decide) | exact absurd (by decide) c_2)
  refine lv_iload_n hx hb dX10_championNow_78 rfl (lv_at hl 2 rfl) ?_
  have hP9 := hP.sub (ws' := [(m0, .inr (12, [.int 0, .ref l1, .ref l2, .int 0, .int 0, .int 0, .long s0])), (l1, .inr (1, [.int 0, .ref a0, .int 0]))]) [0, 1] rfl
  have hD9 := hD.sub (ws' := [(m0, .inr (12, [.int 0, .ref l1, .ref l2, .int 0, .int 0, .int 0, .long s0])), (l1, .inr (1, [.int 0, .ref a0, .int 0]))]) [0, 1] (by decide) rfl
  have hK9 := hK.sub (tys' := []) [] rfl
  refine W.widen (k := 0) (n := 0) (Nat.le_of_ble_eq_true rfl) (Nat.le_of_ble_eq_true rfl) ?_
  exact W.iret (v := (-1)) hx hb hr (fun t ht hW => ⟨⟨(-1), (), rfl, rfl, ⟨by rw [ht]; exact hP9, va_K.moved hW.alike hK9, hD9⟩⟩, hS.F ht⟩) hS.2.2 dX10_championNow_79

def zs_c_X10_champion_ok : List Cond := .code yX10_champion cX10_champion 2 (some .int) :: (([.fieldLink RX10 19 "HaltingaleModel" "thrown" "I", .code yX10_is cX10_is 3 (some .boolean), .methodLink RX10 27 yX10_is, .static yX10_is, .initialized RX10, .code yX10_championNow cX10_championNow 7 (some .int), .fieldLink RX10 10 "HaltingaleModel" "machines" "Ljava/util/ArrayList;", .code yJx4a65c_size_8abf5 cJx4a65c_size_8abf5 1 (some .int), .fieldLink RJx4a65c 48 "java/util/ArrayList" "size" "I", .methodLink RX10 23 yJx4a65c_size_8abf5, .instanceMethod yJx4a65c_size_8abf5, .initialized RJx4a65c, .selects RJx4a65c yJx4a65c_size_8abf5 yJx4a65c_size_8abf5, .methodLink RX10 243 yX10_championNow, .instanceMethod yX10_championNow, .selects RX10 yX10_championNow yX10_championNow] : List Cond) ++ wsX100 ++ wsJx4a65c0)
set_option maxHeartbeats 4000000 in
set_option maxRecDepth 100000 in
/-- no champion -/
theorem c_X10_champion_ok (l : Launch) (hnt : l.stackTraces = false) (dC : Nat → ClassId) (dI : Nat → Nat → Nat) (a0 : Nat) (m0 : Nat) (l1 : Nat) (l2 : Nat) (p0 : Int32) (sz : Nat) (hp : zw p0 0 1 = 1) : Met l yX10_champion zs_c_X10_champion_ok ({ frames := 2, cells := 0, slots := 0, locals := 46 }) (va_Pc [.ref m0, .int p0] (fun U => U.heap.size = sz ∧ va_P (dC, dI) vwCl [(m0, .inr (12, [.int 0, .ref l1, .ref l2, .int 0, .int 0, .int 0, .long 0])), (l1, .inr (1, [.int 0, .ref a0, .int 0]))] U.heap ∧ va_K (dC, dI) vwCl [] U ∧ va_D (fun _ => True) [(m0, .inr (12, [.int 0, .ref l1, .ref l2, .int 0, .int 0, .int 0, .long 0])), (l1, .inr (1, [.int 0, .ref a0, .int 0]))] ∧ zB a0 (va_A [(m0, .inr (12, [.int 0, .ref l1, .ref l2, .int 0, .int 0, .int 0, .long 0])), (l1, .inr (1, [.int 0, .ref a0, .int 0]))] sz) U U.heap)) (va_Qi (fun (r : Int32) (_ : Unit) => r = (-1)) (fun _ t => va_P (dC, dI) vwCl [(m0, .inr (12, [.int 0, .ref l1, .ref l2, .int 0, .int 0, .int 0, .long 0]))] t.heap ∧ va_K (dC, dI) vwCl [] t ∧ va_D (va_A [(m0, .inr (12, [.int 0, .ref l1, .ref l2, .int 0, .int 0, .int 0, .long 0])), (l1, .inr (1, [.int 0, .ref a0, .int 0]))] sz) [(m0, .inr (12, [.int 0, .ref l1, .ref l2, .int 0, .int 0, .int 0, .long 0]))]) (va_A [(m0, .inr (12, [.int 0, .ref l1, .ref l2, .int 0, .int 0, .int 0, .long 0])), (l1, .inr (1, [.int 0, .ref a0, .int 0]))] sz)) 0 0 (va_A [(m0, .inr (12, [.int 0, .ref l1, .ref l2, .int 0, .int 0, .int 0, .long 0])), (l1, .inr (1, [.int 0, .ref a0, .int 0]))] sz) := by
  refine Met.ofW (cc := cX10_champion) (maxL := 2) (ret := (some .int)) (by decide) rfl ?_
  intro p e s m args below meth c s₁ B hml hv
  obtain ⟨rfl, hsz, hP, hK, hD0, hZ⟩ := hv
  have hx := B.exec
  have hb := B.bytes
  have hr := B.returns
  have hts := atoms_spec (ws := zs_c_X10_champion_ok) B.pre
  have hown : s.vm.findClass RX10 = some m.cls := findClass_of_methodNamed B.named
  have hlocks := B.notSynchronized
  have hiX10 : ∀ w ∈ wsX100, w ∈ zs_c_X10_champion_ok := by decide +kernel
  subst hsz
  have hD := hD0.self (sz := s.heap.size)
  generalize hAe : va_A [(m0, .inr (12, [.int 0, .ref l1, .ref l2, .int 0, .int 0, .int 0, .long 0])), (l1, .inr (1, [.int 0, .ref a0, .int 0]))] s.heap.size = A at hD hZ ⊢
  have hA : ∀ q : Nat, s.heap.size ≤ q → A q := fun q h => by rw [← hAe]; exact Or.inr h
  have hS : va_S A s.heap s.heap [] := va_S.rf
  have hl := lv_entry ([.ref m0, .int p0]) (n := 2) (Nat.le_of_ble_eq_true rfl)
  rw [lg_entry_eq]
  generalize (lg_sl ([.ref m0, .int p0]) ++ List.replicate (2 - (lg_sl ([.ref m0, .int p0])).length) Slot.unset).toArray = ls at hl ⊢
  have hl : lv_has ls 2 [(0, .ref m0), (1, .int p0)] := hl
  refine lv_aload_n hx hb dX10_champion_0 rfl (lv_at hl 0 rfl) ?_
  refine lv_iconst (v := 0) hx hb dX10_champion_1 (by decide) ?_
  refine va_put (D := (dC, dI)) (ci := 12) (v := .int 0) (ty := .int) (C := RX10) (T := TX10) (N := 7) hx hb hts hiX10 tyX10 tyX10_ok nmX10 hown hK hP hD hS 0 rfl rfl 0 (by decide) (hts (.fieldLink RX10 19 "HaltingaleModel" "thrown" "I") (by decide +kernel)) (fun _ h9 => h9) rfl (by decide +kernel) rfl rfl (Nat.le_of_ble_eq_true rfl) dX10_champion_2 (fun H locs hP hD hS => ?_)
  have hP : va_P (dC, dI) vwCl [(m0, .inr (12, [.int 0, .ref l1, .ref l2, .int 0, .int 0, .int 0, .long 0])), (l1, .inr (1, [.int 0, .ref a0, .int 0]))] H := hP
  have hD : va_D A [(m0, .inr (12, [.int 0, .ref l1, .ref l2, .int 0, .int 0, .int 0, .long 0])), (l1, .inr (1, [.int 0, .ref a0, .int 0]))] := hD
  refine lv_iload_n hx hb dX10_champion_5 rfl (lv_at hl 1 rfl) ?_
  refine lv_iconst (v := 0) hx hb dX10_champion_6 (by decide) ?_
  refine lv_iconst (v := 1) hx hb dX10_champion_7 (by decide) ?_
  have hPc := hP.sub (ws' := []) [] rfl
  have hDc := hD.sub (ws' := []) [] (by decide) rfl
  have hKc := hK.sub (tys' := []) [] rfl
  have hFc := va_free (wc := []) hD hS hA [] rfl
  have hZc := ((hZ.kept hS.2.1).narrow hFc)
  refine va_calli (va_runS (As := [.int p0, .int 0, .int 1]) (rest := []) ⟨hx, hb, hml, hown, hts⟩ (c_X10_is l hnt dC dI a0 p0 0 1 H.size ) (va_cwS 3 hts (goodIn_of _ (by decide +kernel)) rfl rfl rfl (by decide +kernel) ⟨Nat.le_of_ble_eq_true rfl, Nat.le_of_ble_eq_true rfl⟩) ⟨fun a U g mk q => by obtain ⟨q0, q1, qP, qK, qD, qZ⟩ := q; exact ⟨q0, q1, qP, va_K.moved (u := U) (U := U.calling g mk a) (Vm.Alike.refl U.vm) qK, qD, qZ.call⟩, fun U hU hW => ⟨rfl, by rw [hU], by rw [hU]; exact hPc, va_K.moved hW.alike hKc, hDc.weaken (fun _ _ _ _ => trivial), by rw [hU]; exact hZc.warm hW⟩⟩ rfl rfl hl.1 rfl (lv_room (Nat.le_of_ble_eq_true rfl)) dX10_champion_8 ⟨Nat.le_of_ble_eq_true rfl, Nat.le_of_ble_eq_true rfl⟩) hS (fun q _ h => hFc q h) hFc (fun r_1 u t H1 locs ht hvm hw hB hz1 hk1 hS => ?_)
  obtain ⟨hP1, hK1, hD1⟩ := hB
  rw [ht] at hP1
  have hK1 := va_K.moved hvm.symm hK1
  obtain ⟨hP, hD⟩ := va_join (wr := [(m0, .inr (12, [.int 0, .ref l1, .ref l2, .int 0, .int 0, .int 0, .long 0])), (l1, .inr (1, [.int 0, .ref a0, .int 0]))]) (w1 := []) hP hD [] [0, 1] rfl rfl (by decide) (by decide) hk1 hFc hP1 hD1
  have hK := (hK.sub (tys' := []) [] rfl).app hK1
  generalize H1 = H at hP hS ⊢
  have hP : va_P (dC, dI) vwCl [(m0, .inr (12, [.int 0, .ref l1, .ref l2, .int 0, .int 0, .int 0, .long 0])), (l1, .inr (1, [.int 0, .ref a0, .int 0]))] H := hP
  have hD : va_D A [(m0, .inr (12, [.int 0, .ref l1, .ref l2, .int 0, .int 0, .int 0, .long 0])), (l1, .inr (1, [.int 0, .ref a0, .int 0]))] := hD
  have hK : va_K (dC, dI) vwCl [] s := hK
  refine W.widen (k := 0) (n := 0) (Nat.le_of_ble_eq_true rfl) (Nat.le_of_ble_eq_true rfl) ?_
  obtain rfl : r_1 = 1 := hw.trans (hp)
  refine lv_if_eq (tgt := 22) hx hb dX10_champion_11 (by decide) (fun c_2 => ?_) (fun c_2 => ?_)
  · (first | exact absurd c_2 (by decide) | exact absurd (by decide) c_2)
  refine lv_aload_n hx hb dX10_champion_14 rfl (lv_at hl 0 rfl) ?_
  refine lv_iload_n hx hb dX10_champion_15 rfl (lv_at hl 1 rfl) ?_
  have hPc := hP.sub (ws' := [(m0, .inr (12, [.int 0, .ref l1, .ref l2, .int 0, .int 0, .int 0, .long 0])), (l1, .inr (1, [.int 0, .ref a0, .int 0]))]) [0, 1] rfl
  have hDc := hD.sub (ws' := [(m0, .inr (12, [.int 0, .ref l1, .ref l2, .int 0, .int 0, .int 0, .long 0])), (l1, .inr (1, [.int 0, .ref a0, .int 0]))]) [0, 1] (by decide) rfl
  have hKc := hK.sub (tys' := []) [] rfl
  have hFc := va_free (wc := [(m0, .inr (12, [.int 0, .ref l1, .ref l2, .int 0, .int 0, .int 0, .long 0])), (l1, .inr (1, [.int 0, .ref a0, .int 0]))]) hD hS hA [0, 1] rfl
  have hZc := ((hZ.kept hS.2.1).narrow hFc)
  refine va_calli (va_runV (As := [.int p0]) (rest := []) ⟨hx, hb, hml, hown, hts⟩ (c_X10_championNow l hnt dC dI a0 m0 l1 l2 p0 0 H.size ) (cwV 1 hts (goodIn_of _ (by decide +kernel)) rfl rfl rfl (by decide +kernel) ⟨Nat.le_of_ble_eq_true rfl, Nat.le_of_ble_eq_true rfl⟩) ⟨fun a U g mk q => by obtain ⟨q0, q1, qP, qK, qD, qZ⟩ := q; exact ⟨q0, q1, qP, va_K.moved (u := U) (U := U.calling g mk a) (Vm.Alike.refl U.vm) qK, qD, qZ.call⟩, va_recv hKc hPc (ci := 12) (q0 := 0) rfl rfl, fun U hU hW => ⟨rfl, by rw [hU], by rw [hU]; exact hPc, va_K.moved hW.alike hKc, hDc.weaken (fun _ _ _ _ => trivial), by rw [hU]; exact hZc.warm hW⟩⟩ rfl rfl hl.1 rfl (lv_room (Nat.le_of_ble_eq_true rfl)) dX10_champion_16 ⟨Nat.le_of_ble_eq_true rfl, Nat.le_of_ble_eq_true rfl⟩) hS (fun q _ h => hFc q h) hFc (fun r_3 u t H1 locs ht hvm hw hB hz1 hk1 hS => ?_)
  obtain ⟨hP1, hK1, hD1⟩ := hB
  rw [ht] at hP1
  have hK1 := va_K.moved hvm.symm hK1
  obtain ⟨hP, hD⟩ := va_join (wr := []) (w1 := [(m0, .inr (12, [.int 0, .ref l1, .ref l2, .int 0, .int 0, .int 0, .long 0])), (l1, .inr (1, [.int 0, .ref a0, .int 0]))]) hP hD [0, 1] [] rfl rfl (by decide) (by decide) hk1 hFc hP1 hD1
  have hK := (hK.sub (tys' := []) [] rfl).app hK1
  generalize H1 = H at hP hS ⊢
  have hP : va_P (dC, dI) vwCl [(m0, .inr (12, [.int 0, .ref l1, .ref l2, .int 0, .int 0, .int 0, .long 0])), (l1, .inr (1, [.int 0, .ref a0, .int 0]))] H := hP
  have hD : va_D A [(m0, .inr (12, [.int 0, .ref l1, .ref l2, .int 0, .int 0, .int 0, .long 0])), (l1, .inr (1, [.int 0, .ref a0, .int 0]))] := hD
  have hK : va_K (dC, dI) vwCl [] s := hK
  refine W.widen (k := 0) (n := 0) (Nat.le_of_ble_eq_true rfl) (Nat.le_of_ble_eq_true rfl) ?_
  obtain rfl : r_3 = (-1) := hw
  refine lv_goto (tgt := 27) hx hb dX10_champion_19 (by decide) ?_
  have hP9 := hP.sub (ws' := [(m0, .inr (12, [.int 0, .ref l1, .ref l2, .int 0, .int 0, .int 0, .long 0]))]) [0] rfl
  have hD9 := hD.sub (ws' := [(m0, .inr (12, [.int 0, .ref l1, .ref l2, .int 0, .int 0, .int 0, .long 0]))]) [0] (by decide) rfl
  have hK9 := hK.sub (tys' := []) [] rfl
  refine W.widen (k := 0) (n := 0) (Nat.le_of_ble_eq_true rfl) (Nat.le_of_ble_eq_true rfl) ?_
  exact W.iret (v := (-1)) hx hb hr (fun t ht hW => ⟨⟨(-1), (), rfl, rfl, ⟨by rw [ht]; exact hP9, va_K.moved hW.alike hK9, hD9⟩⟩, hS.F ht⟩) hS.2.2 dX10_champion_27

def zs_c_X10_manyNow_0 : List Cond := .code yX10_manyNow cX10_manyNow 6 (some .int) :: (([.arrayClass .int, .fieldLink RX10 10 "HaltingaleModel" "machines" "Ljava/util/ArrayList;", .code yJx4a65c_iterator_32c93 cJx4a65c_iterator_32c93 1 (some (.object "java/util/Iterator")), .classLink RJx4a65c 267 RJx35411, .instantiable RJx35411 4, .initialized RJx35411, .code yJx35411_init_45d68 cJx35411_init_45d68 2 none, .fieldLink RJx35411 1 "java/util/ArrayList$Itr" "this$0" "Ljava/util/ArrayList;", .methodLink RJx35411 7 objectInit, .instanceMethod objectInit, .code objectInit ⟨#[0xb1]⟩ 1 none, .fieldLink RJx35411 13 "java/util/ArrayList$Itr" "lastRet" "I", .sameField "java/util/ArrayList" "java/util/AbstractList" "modCount" "I", .fieldLink RJx35411 17 "java/util/ArrayList" "modCount" "I", .fieldLink RJx35411 22 "java/util/ArrayList$Itr" "expectedModCount" "I", .methodLink RJx4a65c 269 yJx35411_init_45d68, .instanceMethod yJx35411_init_45d68, .methodLink RX10 158 yJx4a65c_iterator_32c93, .instanceMethod yJx4a65c_iterator_32c93, .initialized RJx4a65c, .selects RJx4a65c yJx4a65c_iterator_32c93 yJx4a65c_iterator_32c93, .code yJx35411_hasNext_aae02 cJx35411_hasNext_aae02 1 (some .boolean), .fieldLink RJx35411 25 "java/util/ArrayList$Itr" "cursor" "I", .methodLink RX10 162 ⟨"java/util/Iterator", "hasNext", "()Z"⟩, .instanceMethod yJx35411_hasNext_aae02, .selects RJx35411 ⟨"java/util/Iterator", "hasNext", "()Z"⟩ yJx35411_hasNext_aae02, .code yJx4a65c_size_8abf5 cJx4a65c_size_8abf5 1 (some .int), .fieldLink RJx4a65c 48 "java/util/ArrayList" "size" "I", .methodLink RX10 23 yJx4a65c_size_8abf5, .instanceMethod yJx4a65c_size_8abf5, .selects RJx4a65c yJx4a65c_size_8abf5 yJx4a65c_size_8abf5, .fieldLink RX10 16 "HaltingaleModel" "tags" "Ljava/util/ArrayList;", .fieldLink RX10 191 "HaltingaleModel" "given" "I", .fieldLink RX10 194 "HaltingaleModel" "taken" "I", .fieldLink RX10 67 "HaltingaleModel" "back" "I"] : List Cond) ++ wsX100 ++ wsJx354110 ++ wsJx4a65c0)
set_option maxHeartbeats 4000000 in
set_option maxRecDepth 100000 in
/-- manyNow of 0 -/
theorem c_X10_manyNow_0 (l : Launch) (hnt : l.stackTraces = false) (dC : Nat → ClassId) (dI : Nat → Nat → Nat) (a0 : Nat) (m0 : Nat) (l1 : Nat) (l2 : Nat) (s0 : Int64) (sz : Nat)  : Met l yX10_manyNow zs_c_X10_manyNow_0 ({ frames := 3, cells := 3, slots := 20, locals := 53 }) (va_Pc [.ref m0, .int 0] (fun U => U.heap.size = sz ∧ va_P (dC, dI) vwCl [(m0, .inr (12, [.int 0, .ref l1, .ref l2, .int 0, .int 0, .int 0, .long s0])), (l1, .inr (1, [.int 0, .ref a0, .int 0])), (l2, .inr (1, [.int 0, .ref a0, .int 0]))] U.heap ∧ va_K (dC, dI) vwCl [] U ∧ va_D (fun _ => True) [(m0, .inr (12, [.int 0, .ref l1, .ref l2, .int 0, .int 0, .int 0, .long s0])), (l1, .inr (1, [.int 0, .ref a0, .int 0])), (l2, .inr (1, [.int 0, .ref a0, .int 0]))] ∧ zB a0 (va_A [(m0, .inr (12, [.int 0, .ref l1, .ref l2, .int 0, .int 0, .int 0, .long s0])), (l1, .inr (1, [.int 0, .ref a0, .int 0])), (l2, .inr (1, [.int 0, .ref a0, .int 0]))] sz) U U.heap)) (va_Qi (fun (r : Int32) (_ : Unit) => r = 0) (fun _ t => va_P (dC, dI) vwCl [(m0, .inr (12, [.int 0, .ref l1, .ref l2, .int 0, .int 0, .int 0, .long s0])), (l1, .inr (1, [.int 0, .ref a0, .int 0])), (l2, .inr (1, [.int 0, .ref a0, .int 0]))] t.heap ∧ va_K (dC, dI) vwCl [] t ∧ va_D (va_A [(m0, .inr (12, [.int 0, .ref l1, .ref l2, .int 0, .int 0, .int 0, .long s0])), (l1, .inr (1, [.int 0, .ref a0, .int 0])), (l2, .inr (1, [.int 0, .ref a0, .int 0]))] sz) [(m0, .inr (12, [.int 0, .ref l1, .ref l2, .int 0, .int 0, .int 0, .long s0])), (l1, .inr (1, [.int 0, .ref a0, .int 0])), (l2, .inr (1, [.int 0, .ref a0, .int 0]))]) (va_A [(m0, .inr (12, [.int 0, .ref l1, .ref l2, .int 0, .int 0, .int 0, .long s0])), (l1, .inr (1, [.int 0, .ref a0, .int 0])), (l2, .inr (1, [.int 0, .ref a0, .int 0]))] sz)) 3 20 (va_A [(m0, .inr (12, [.int 0, .ref l1, .ref l2, .int 0, .int 0, .int 0, .long s0])), (l1, .inr (1, [.int 0, .ref a0, .int 0])), (l2, .inr (1, [.int 0, .ref a0, .int 0]))] sz) := by
  refine Met.ofW (cc := cX10_manyNow) (maxL := 6) (ret := (some .int)) (by decide) rfl ?_
  intro p e s m args below meth c s₁ B hml hv
  obtain ⟨rfl, hsz, hP, hK, hD0, hZ⟩ := hv
  have hx := B.exec
  have hb := B.bytes
  have hr := B.returns
  have hts := atoms_spec (ws := zs_c_X10_manyNow_0) B.pre
  have hown : s.vm.findClass RX10 = some m.cls := findClass_of_methodNamed B.named
  have hlocks := B.notSynchronized
  have hiX10 : ∀ w ∈ wsX100, w ∈ zs_c_X10_manyNow_0 := by decide +kernel
  subst hsz
  have hD := hD0.self (sz := s.heap.size)
  generalize hAe : va_A [(m0, .inr (12, [.int 0, .ref l1, .ref l2, .int 0, .int 0, .int 0, .long s0])), (l1, .inr (1, [.int 0, .ref a0, .int 0])), (l2, .inr (1, [.int 0, .ref a0, .int 0]))] s.heap.size = A at hD hZ ⊢
  have hA : ∀ q : Nat, s.heap.size ≤ q → A q := fun q h => by rw [← hAe]; exact Or.inr h
  have hS : va_S A s.heap s.heap [] := va_S.rf
  have hl := lv_entry ([.ref m0, .int 0]) (n := 6) (Nat.le_of_ble_eq_true rfl)
  rw [lg_entry_eq]
  generalize (lg_sl ([.ref m0, .int 0]) ++ List.replicate (6 - (lg_sl ([.ref m0, .int 0])).length) Slot.unset).toArray = ls at hl ⊢
  have hl : lv_has ls 6 [(0, .ref m0), (1, .int 0)] := hl
  refine lv_iconst (v := 5) hx hb dX10_manyNow_0 (by decide) ?_
  refine va_newa (atype := .int) (ty := .int) (N' := 5) (a0 := (5, .inl (fun _ => 0))) hx hb (hts (.arrayClass .int) (by decide +kernel)) rfl hK hP hD hS hA (fun _ => rfl) (by decide) (by decide) (Nat.le_of_ble_eq_true rfl) (Nat.le_of_ble_eq_true rfl) (Nat.le_of_ble_eq_true rfl) dX10_manyNow_1 (fun q_1 cy_2 H hK hP hD hS => ?_)
  have hK : va_K (dC, dI) vwCl [(cy_2, .int)] s := hK
  have hP : va_P (dC, dI) vwCl [(m0, .inr (12, [.int 0, .ref l1, .ref l2, .int 0, .int 0, .int 0, .long s0])), (l1, .inr (1, [.int 0, .ref a0, .int 0])), (l2, .inr (1, [.int 0, .ref a0, .int 0])), (q_1, .inl (cy_2, 5, .inl (fun _ => 0)))] H := hP
  have hD : va_D A [(m0, .inr (12, [.int 0, .ref l1, .ref l2, .int 0, .int 0, .int 0, .long s0])), (l1, .inr (1, [.int 0, .ref a0, .int 0])), (l2, .inr (1, [.int 0, .ref a0, .int 0])), (q_1, .inl (cy_2, 5, .inl (fun _ => 0)))] := hD
  refine W.widen (k := 1) (n := 5) (Nat.le_of_ble_eq_true rfl) (Nat.le_of_ble_eq_true rfl) ?_
  refine lv_astore_n (lv' := [(2, .ref q_1), (0, .ref m0), (1, .int 0)]) hx hb dX10_manyNow_3 rfl hl (by decide) rfl (fun ls hl => ?_)
  refine lv_iconst (v := 0) hx hb dX10_manyNow_4 (by decide) ?_
  refine lv_istore_n (lv' := [(3, .int 0), (2, .ref q_1), (0, .ref m0), (1, .int 0)]) hx hb dX10_manyNow_5 rfl hl (by decide) rfl (fun ls hl => ?_)
  refine lv_aload_n hx hb dX10_manyNow_6 rfl (lv_at hl 2 rfl) ?_
  refine va_get (D := (dC, dI)) (ci := 12) (v := .ref l1) (C := RX10) (T := TX10) (N := 7) hx hb hts hiX10 hown hK hP 0 rfl rfl 1 (by decide) (hts (.fieldLink RX10 10 "HaltingaleModel" "machines" "Ljava/util/ArrayList;") (by decide +kernel)) (fun _ h9 => h9) rfl dX10_manyNow_7 ?_
  have hPc := hP.sub (ws' := [(l1, .inr (1, [.int 0, .ref a0, .int 0]))]) [1] rfl
  have hDc := hD.sub (ws' := [(l1, .inr (1, [.int 0, .ref a0, .int 0]))]) [1] (by decide) rfl
  have hKc := hK.sub (tys' := []) [] rfl
  have hFc := va_free (wc := [(l1, .inr (1, [.int 0, .ref a0, .int 0]))]) hD hS hA [1] rfl
  have hZc := ((hZ.kept hS.2.1).narrow hFc)
  refine va_callr (va_runV (As := []) (rest := []) ⟨hx, hb, hml, hown, hts⟩ (c_Jx4a65c_iterator_32c93 l hnt dC dI a0 l1 H.size ) (cwV 0 hts (goodIn_of _ (by decide +kernel)) rfl rfl rfl (by decide +kernel) ⟨Nat.le_of_ble_eq_true rfl, Nat.le_of_ble_eq_true rfl⟩) ⟨fun a U g mk q => by obtain ⟨q0, q1, qP, qK, qD, qZ⟩ := q; exact ⟨q0, q1, qP, va_K.moved (u := U) (U := U.calling g mk a) (Vm.Alike.refl U.vm) qK, qD, qZ.call⟩, va_recv hKc hPc (ci := 1) (q0 := 0) rfl rfl, fun U hU hW => ⟨rfl, by rw [hU], by rw [hU]; exact hPc, va_K.moved hW.alike hKc, hDc.weaken (fun _ _ _ _ => trivial), by rw [hU]; exact hZc.warm hW⟩⟩ rfl rfl hl.1 rfl (lv_room (Nat.le_of_ble_eq_true rfl)) dX10_manyNow_10 ⟨Nat.le_of_ble_eq_true rfl, Nat.le_of_ble_eq_true rfl⟩) hS (fun q _ h => hFc q h) hFc (fun u r_3 t H1 locs ht hvm hw hB hz1 hk1 hS => ?_)
  obtain ⟨hP1, hK1, hD1⟩ := hB
  rw [ht] at hP1
  have hK1 := va_K.moved hvm.symm hK1
  obtain ⟨hP, hD⟩ := va_join (wr := [(m0, .inr (12, [.int 0, .ref l1, .ref l2, .int 0, .int 0, .int 0, .long s0])), (l2, .inr (1, [.int 0, .ref a0, .int 0])), (q_1, .inl (cy_2, 5, .inl (fun _ => 0)))]) (w1 := [(r_3, .inr (0, [.int 0, .int (-1), .int 0, .ref l1])), (l1, .inr (1, [.int 0, .ref a0, .int 0]))]) hP hD [1] [0, 2, 3] rfl rfl (by decide) (by decide) hk1 hFc hP1 hD1
  have hK := (hK.sub (tys' := [(cy_2, .int)]) [0] rfl).app hK1
  generalize H1 = H at hP hS ⊢
  have hP : va_P (dC, dI) vwCl [(m0, .inr (12, [.int 0, .ref l1, .ref l2, .int 0, .int 0, .int 0, .long s0])), (l2, .inr (1, [.int 0, .ref a0, .int 0])), (q_1, .inl (cy_2, 5, .inl (fun _ => 0))), (r_3, .inr (0, [.int 0, .int (-1), .int 0, .ref l1])), (l1, .inr (1, [.int 0, .ref a0, .int 0]))] H := hP
  have hD : va_D A [(m0, .inr (12, [.int 0, .ref l1, .ref l2, .int 0, .int 0, .int 0, .long s0])), (l2, .inr (1, [.int 0, .ref a0, .int 0])), (q_1, .inl (cy_2, 5, .inl (fun _ => 0))), (r_3, .inr (0, [.int 0, .int (-1), .int 0, .ref l1])), (l1, .inr (1, [.int 0, .ref a0, .int 0]))] := hD
  have hK : va_K (dC, dI) vwCl [(cy_2, .int)] s := hK
  refine W.widen (k := 2) (n := 9) (Nat.le_of_ble_eq_true rfl) (Nat.le_of_ble_eq_true rfl) ?_
  refine lv_astore (lv' := [(4, .ref r_3), (3, .int 0), (2, .ref q_1), (0, .ref m0), (1, .int 0)]) hx hb dX10_manyNow_13 hl (by decide) rfl (fun ls hl => ?_)
  refine lv_aload hx hb dX10_manyNow_15 (lv_at hl 0 rfl) ?_
  have hPc := hP.sub (ws' := [(r_3, .inr (0, [.int 0, .int (-1), .int 0, .ref l1])), (l1, .inr (1, [.int 0, .ref a0, .int 0]))]) [3, 4] rfl
  have hDc := hD.sub (ws' := [(r_3, .inr (0, [.int 0, .int (-1), .int 0, .ref l1])), (l1, .inr (1, [.int 0, .ref a0, .int 0]))]) [3, 4] (by decide) rfl
  have hKc := hK.sub (tys' := []) [] rfl
  have hFc := va_free (wc := [(r_3, .inr (0, [.int 0, .int (-1), .int 0, .ref l1])), (l1, .inr (1, [.int 0, .ref a0, .int 0]))]) hD hS hA [3, 4] rfl
  have hZc := ((hZ.kept hS.2.1).narrow hFc)
  refine va_callFi (va_runF (As := []) (rest := []) (zz_at hK 0 rfl) ⟨hx, hb, hml, hown, hts⟩ (c_Jx35411_hasNext_aae02 l hnt dC dI a0 r_3 l1 H.size ) (va_cwF 0 hts (goodIn_of _ (by decide +kernel)) rfl rfl rfl hZ.fwN (by decide +kernel) ⟨Nat.le_of_ble_eq_true rfl, Nat.le_of_ble_eq_true rfl⟩) ⟨fun a U g mk q => by obtain ⟨q0, q1, qP, qK, qD, qZ⟩ := q; exact ⟨q0, q1, qP, va_K.moved (u := U) (U := U.calling g mk a) (Vm.Alike.refl U.vm) qK, qD, qZ.call⟩, va_recv hKc hPc (ci := 0) (q0 := 0) rfl rfl, fun U hU hW => ⟨rfl, by rw [hU], by rw [hU]; exact hPc, va_K.moved hW.alike hKc, hDc.weaken (fun _ _ _ _ => trivial), by rw [hU]; exact hZc.warm hW⟩⟩ rfl rfl hl.1 rfl (lv_room (Nat.le_of_ble_eq_true rfl)) dX10_manyNow_17 ⟨Nat.le_of_ble_eq_true rfl, Nat.le_of_ble_eq_true rfl⟩) hS (fun q _ h => hFc q h) hFc (fun r_4 u t H1 locs ht hvm hw hB hz1 hk1 hS => ?_)
  obtain ⟨hP1, hK1, hD1⟩ := hB
  rw [ht] at hP1
  have hK1 := va_K.moved hvm.symm hK1
  obtain ⟨hP, hD⟩ := va_join (wr := [(m0, .inr (12, [.int 0, .ref l1, .ref l2, .int 0, .int 0, .int 0, .long s0])), (l2, .inr (1, [.int 0, .ref a0, .int 0])), (q_1, .inl (cy_2, 5, .inl (fun _ => 0)))]) (w1 := [(r_3, .inr (0, [.int 0, .int (-1), .int 0, .ref l1])), (l1, .inr (1, [.int 0, .ref a0, .int 0]))]) hP hD [3, 4] [0, 1, 2] rfl rfl (by decide) (by decide) hk1 hFc hP1 hD1
  have hK := (hK.sub (tys' := [(cy_2, .int)]) [0] rfl).app hK1
  generalize H1 = H at hP hS ⊢
  have hP : va_P (dC, dI) vwCl [(m0, .inr (12, [.int 0, .ref l1, .ref l2, .int 0, .int 0, .int 0, .long s0])), (l2, .inr (1, [.int 0, .ref a0, .int 0])), (q_1, .inl (cy_2, 5, .inl (fun _ => 0))), (r_3, .inr (0, [.int 0, .int (-1), .int 0, .ref l1])), (l1, .inr (1, [.int 0, .ref a0, .int 0]))] H := hP
  have hD : va_D A [(m0, .inr (12, [.int 0, .ref l1, .ref l2, .int 0, .int 0, .int 0, .long s0])), (l2, .inr (1, [.int 0, .ref a0, .int 0])), (q_1, .inl (cy_2, 5, .inl (fun _ => 0))), (r_3, .inr (0, [.int 0, .int (-1), .int 0, .ref l1])), (l1, .inr (1, [.int 0, .ref a0, .int 0]))] := hD
  have hK : va_K (dC, dI) vwCl [(cy_2, .int)] s := hK
  refine W.widen (k := 2) (n := 9) (Nat.le_of_ble_eq_true rfl) (Nat.le_of_ble_eq_true rfl) ?_
  obtain rfl : r_4 = 0 := hw
  refine lv_if_eq (tgt := 61) hx hb dX10_manyNow_22 (by decide) (fun c_5 => ?_) (fun c_5 => ?_)
  rotate_left
  · (first | exact absurd c_5 (by decide) | exact absurd (by decide) c_5)
  refine lv_bipush (v := 11) hx hb dX10_manyNow_61 (by decide) ?_
  refine va_newa (atype := .int) (ty := .int) (N' := 11) (a0 := (11, .inl (fun _ => 0))) hx hb (hts (.arrayClass .int) (by decide +kernel)) rfl hK hP hD hS hA (fun _ => rfl) (by decide) (by decide) (Nat.le_of_ble_eq_true rfl) (Nat.le_of_ble_eq_true rfl) (Nat.le_of_ble_eq_true rfl) dX10_manyNow_63 (fun q_6 cy_7 H hK hP hD hS => ?_)
  have hK : va_K (dC, dI) vwCl [(cy_2, .int), (cy_7, .int)] s := hK
  have hP : va_P (dC, dI) vwCl [(m0, .inr (12, [.int 0, .ref l1, .ref l2, .int 0, .int 0, .int 0, .long s0])), (l2, .inr (1, [.int 0, .ref a0, .int 0])), (q_1, .inl (cy_2, 5, .inl (fun _ => 0))), (r_3, .inr (0, [.int 0, .int (-1), .int 0, .ref l1])), (l1, .inr (1, [.int 0, .ref a0, .int 0])), (q_6, .inl (cy_7, 11, .inl (fun _ => 0)))] H := hP
  have hD : va_D A [(m0, .inr (12, [.int 0, .ref l1, .ref l2, .int 0, .int 0, .int 0, .long s0])), (l2, .inr (1, [.int 0, .ref a0, .int 0])), (q_1, .inl (cy_2, 5, .inl (fun _ => 0))), (r_3, .inr (0, [.int 0, .int (-1), .int 0, .ref l1])), (l1, .inr (1, [.int 0, .ref a0, .int 0])), (q_6, .inl (cy_7, 11, .inl (fun _ => 0)))] := hD
  refine W.widen (k := 3) (n := 20) (Nat.le_of_ble_eq_true rfl) (Nat.le_of_ble_eq_true rfl) ?_
  refine lv_dup hx hb dX10_manyNow_65 rfl ?_
  refine lv_iconst (v := 0) hx hb dX10_manyNow_66 (by decide) ?_
  refine lv_aload_n hx hb dX10_manyNow_67 rfl (lv_at hl 3 rfl) ?_
  refine va_get (D := (dC, dI)) (ci := 12) (v := .ref l1) (C := RX10) (T := TX10) (N := 7) hx hb hts hiX10 hown hK hP 0 rfl rfl 1 (by decide) (hts (.fieldLink RX10 10 "HaltingaleModel" "machines" "Ljava/util/ArrayList;") (by decide +kernel)) (fun _ h9 => h9) rfl dX10_manyNow_68 ?_
  have hPc := hP.sub (ws' := [(l1, .inr (1, [.int 0, .ref a0, .int 0]))]) [4] rfl
  have hDc := hD.sub (ws' := [(l1, .inr (1, [.int 0, .ref a0, .int 0]))]) [4] (by decide) rfl
  have hKc := hK.sub (tys' := []) [] rfl
  have hFc := va_free (wc := [(l1, .inr (1, [.int 0, .ref a0, .int 0]))]) hD hS hA [4] rfl
  have hZc := ((hZ.kept hS.2.1).narrow hFc)
  refine va_calli (va_runV (As := []) (rest := [.int 0, .ref q_6, .ref q_6]) ⟨hx, hb, hml, hown, hts⟩ (c_Jx4a65c_size_8abf5 l hnt dC dI a0 l1 0 a0 0 H.size ) (cwV 0 hts (goodIn_of _ (by decide +kernel)) rfl rfl rfl (by decide +kernel) ⟨Nat.le_of_ble_eq_true rfl, Nat.le_of_ble_eq_true rfl⟩) ⟨fun a U g mk q => by obtain ⟨q0, q1, qP, qK, qD, qZ⟩ := q; exact ⟨q0, q1, qP, va_K.moved (u := U) (U := U.calling g mk a) (Vm.Alike.refl U.vm) qK, qD, qZ.call⟩, va_recv hKc hPc (ci := 1) (q0 := 0) rfl rfl, fun U hU hW => ⟨rfl, by rw [hU], by rw [hU]; exact hPc, va_K.moved hW.alike hKc, hDc.weaken (fun _ _ _ _ => trivial), by rw [hU]; exact hZc.warm hW⟩⟩ rfl rfl hl.1 rfl (lv_room (Nat.le_of_ble_eq_true rfl)) dX10_manyNow_71 ⟨Nat.le_of_ble_eq_true rfl, Nat.le_of_ble_eq_true rfl⟩) hS (fun q _ h => hFc q h) hFc (fun r_8 u t H1 locs ht hvm hw hB hz1 hk1 hS => ?_)
  obtain ⟨hP1, hK1, hD1⟩ := hB
  rw [ht] at hP1
  have hK1 := va_K.moved hvm.symm hK1
  obtain ⟨hP, hD⟩ := va_join (wr := [(m0, .inr (12, [.int 0, .ref l1, .ref l2, .int 0, .int 0, .int 0, .long s0])), (l2, .inr (1, [.int 0, .ref a0, .int 0])), (q_1, .inl (cy_2, 5, .inl (fun _ => 0))), (r_3, .inr (0, [.int 0, .int (-1), .int 0, .ref l1])), (q_6, .inl (cy_7, 11, .inl (fun _ => 0)))]) (w1 := [(l1, .inr (1, [.int 0, .ref a0, .int 0]))]) hP hD [4] [0, 1, 2, 3, 5] rfl rfl (by decide) (by decide) hk1 hFc hP1 hD1
  have hK := (hK.sub (tys' := [(cy_2, .int), (cy_7, .int)]) [0, 1] rfl).app hK1
  generalize H1 = H at hP hS ⊢
  have hP : va_P (dC, dI) vwCl [(m0, .inr (12, [.int 0, .ref l1, .ref l2, .int 0, .int 0, .int 0, .long s0])), (l2, .inr (1, [.int 0, .ref a0, .int 0])), (q_1, .inl (cy_2, 5, .inl (fun _ => 0))), (r_3, .inr (0, [.int 0, .int (-1), .int 0, .ref l1])), (q_6, .inl (cy_7, 11, .inl (fun _ => 0))), (l1, .inr (1, [.int 0, .ref a0, .int 0]))] H := hP
  have hD : va_D A [(m0, .inr (12, [.int 0, .ref l1, .ref l2, .int 0, .int 0, .int 0, .long s0])), (l2, .inr (1, [.int 0, .ref a0, .int 0])), (q_1, .inl (cy_2, 5, .inl (fun _ => 0))), (r_3, .inr (0, [.int 0, .int (-1), .int 0, .ref l1])), (q_6, .inl (cy_7, 11, .inl (fun _ => 0))), (l1, .inr (1, [.int 0, .ref a0, .int 0]))] := hD
  have hK : va_K (dC, dI) vwCl [(cy_2, .int), (cy_7, .int)] s := hK
  refine W.widen (k := 3) (n := 20) (Nat.le_of_ble_eq_true rfl) (Nat.le_of_ble_eq_true rfl) ?_
  obtain rfl : r_8 = 0 := hw
  refine va_iast hx hb hK hP hD hS 4 1 rfl rfl (by unfold vp_in; decide) dX10_manyNow_74 (fun H locs hP hD hS => ?_)
  have hP : va_P (dC, dI) vwCl [(m0, .inr (12, [.int 0, .ref l1, .ref l2, .int 0, .int 0, .int 0, .long s0])), (l2, .inr (1, [.int 0, .ref a0, .int 0])), (q_1, .inl (cy_2, 5, .inl (fun _ => 0))), (r_3, .inr (0, [.int 0, .int (-1), .int 0, .ref l1])), (q_6, .inl (cy_7, 11, .inl (upd (fun _ => 0) ((0 : Int32).toNatClampNeg) 0))), (l1, .inr (1, [.int 0, .ref a0, .int 0]))] H := hP
  have hD : va_D A [(m0, .inr (12, [.int 0, .ref l1, .ref l2, .int 0, .int 0, .int 0, .long s0])), (l2, .inr (1, [.int 0, .ref a0, .int 0])), (q_1, .inl (cy_2, 5, .inl (fun _ => 0))), (r_3, .inr (0, [.int 0, .int (-1), .int 0, .ref l1])), (q_6, .inl (cy_7, 11, .inl (upd (fun _ => 0) ((0 : Int32).toNatClampNeg) 0))), (l1, .inr (1, [.int 0, .ref a0, .int 0]))] := hD
  refine lv_dup hx hb dX10_manyNow_75 rfl ?_
  refine lv_iconst (v := 1) hx hb dX10_manyNow_76 (by decide) ?_
  refine lv_aload_n hx hb dX10_manyNow_77 rfl (lv_at hl 2 rfl) ?_
  refine lv_iconst (v := 0) hx hb dX10_manyNow_78 (by decide) ?_
  refine va_iald hx hb hK hP 2 0 rfl rfl (by unfold vp_in; decide) dX10_manyNow_79 ?_
  refine lv_topi (fun x_10 ex_10 => ?_)
  obtain rfl : x_10 = 0 := ex_10.trans (by decide +kernel)
  refine va_iast hx hb hK hP hD hS 4 1 rfl rfl (by unfold vp_in; decide) dX10_manyNow_80 (fun H locs hP hD hS => ?_)
  have hP : va_P (dC, dI) vwCl [(m0, .inr (12, [.int 0, .ref l1, .ref l2, .int 0, .int 0, .int 0, .long s0])), (l2, .inr (1, [.int 0, .ref a0, .int 0])), (q_1, .inl (cy_2, 5, .inl (fun _ => 0))), (r_3, .inr (0, [.int 0, .int (-1), .int 0, .ref l1])), (q_6, .inl (cy_7, 11, .inl (upd (upd (fun _ => 0) ((0 : Int32).toNatClampNeg) 0) ((1 : Int32).toNatClampNeg) 0))), (l1, .inr (1, [.int 0, .ref a0, .int 0]))] H := hP
  have hD : va_D A [(m0, .inr (12, [.int 0, .ref l1, .ref l2, .int 0, .int 0, .int 0, .long s0])), (l2, .inr (1, [.int 0, .ref a0, .int 0])), (q_1, .inl (cy_2, 5, .inl (fun _ => 0))), (r_3, .inr (0, [.int 0, .int (-1), .int 0, .ref l1])), (q_6, .inl (cy_7, 11, .inl (upd (upd (fun _ => 0) ((0 : Int32).toNatClampNeg) 0) ((1 : Int32).toNatClampNeg) 0))), (l1, .inr (1, [.int 0, .ref a0, .int 0]))] := hD
  refine lv_dup hx hb dX10_manyNow_81 rfl ?_
  refine lv_iconst (v := 2) hx hb dX10_manyNow_82 (by decide) ?_
  refine lv_aload_n hx hb dX10_manyNow_83 rfl (lv_at hl 2 rfl) ?_
  refine lv_iconst (v := 1) hx hb dX10_manyNow_84 (by decide) ?_
  refine va_iald hx hb hK hP 2 0 rfl rfl (by unfold vp_in; decide) dX10_manyNow_85 ?_
  refine lv_topi (fun x_12 ex_12 => ?_)
  obtain rfl : x_12 = 0 := ex_12.trans (by decide +kernel)
  refine va_iast hx hb hK hP hD hS 4 1 rfl rfl (by unfold vp_in; decide) dX10_manyNow_86 (fun H locs hP hD hS => ?_)
  have hP : va_P (dC, dI) vwCl [(m0, .inr (12, [.int 0, .ref l1, .ref l2, .int 0, .int 0, .int 0, .long s0])), (l2, .inr (1, [.int 0, .ref a0, .int 0])), (q_1, .inl (cy_2, 5, .inl (fun _ => 0))), (r_3, .inr (0, [.int 0, .int (-1), .int 0, .ref l1])), (q_6, .inl (cy_7, 11, .inl (upd (upd (upd (fun _ => 0) ((0 : Int32).toNatClampNeg) 0) ((1 : Int32).toNatClampNeg) 0) ((2 : Int32).toNatClampNeg) 0))), (l1, .inr (1, [.int 0, .ref a0, .int 0]))] H := hP
  have hD : va_D A [(m0, .inr (12, [.int 0, .ref l1, .ref l2, .int 0, .int 0, .int 0, .long s0])), (l2, .inr (1, [.int 0, .ref a0, .int 0])), (q_1, .inl (cy_2, 5, .inl (fun _ => 0))), (r_3, .inr (0, [.int 0, .int (-1), .int 0, .ref l1])), (q_6, .inl (cy_7, 11, .inl (upd (upd (upd (fun _ => 0) ((0 : Int32).toNatClampNeg) 0) ((1 : Int32).toNatClampNeg) 0) ((2 : Int32).toNatClampNeg) 0))), (l1, .inr (1, [.int 0, .ref a0, .int 0]))] := hD
  refine lv_dup hx hb dX10_manyNow_87 rfl ?_
  refine lv_iconst (v := 3) hx hb dX10_manyNow_88 (by decide) ?_
  refine lv_aload_n hx hb dX10_manyNow_89 rfl (lv_at hl 2 rfl) ?_
  refine lv_iconst (v := 2) hx hb dX10_manyNow_90 (by decide) ?_
  refine va_iald hx hb hK hP 2 0 rfl rfl (by unfold vp_in; decide) dX10_manyNow_91 ?_
  refine lv_topi (fun x_14 ex_14 => ?_)
  obtain rfl : x_14 = 0 := ex_14.trans (by decide +kernel)
  refine va_iast hx hb hK hP hD hS 4 1 rfl rfl (by unfold vp_in; decide) dX10_manyNow_92 (fun H locs hP hD hS => ?_)
  have hP : va_P (dC, dI) vwCl [(m0, .inr (12, [.int 0, .ref l1, .ref l2, .int 0, .int 0, .int 0, .long s0])), (l2, .inr (1, [.int 0, .ref a0, .int 0])), (q_1, .inl (cy_2, 5, .inl (fun _ => 0))), (r_3, .inr (0, [.int 0, .int (-1), .int 0, .ref l1])), (q_6, .inl (cy_7, 11, .inl (upd (upd (upd (upd (fun _ => 0) ((0 : Int32).toNatClampNeg) 0) ((1 : Int32).toNatClampNeg) 0) ((2 : Int32).toNatClampNeg) 0) ((3 : Int32).toNatClampNeg) 0))), (l1, .inr (1, [.int 0, .ref a0, .int 0]))] H := hP
  have hD : va_D A [(m0, .inr (12, [.int 0, .ref l1, .ref l2, .int 0, .int 0, .int 0, .long s0])), (l2, .inr (1, [.int 0, .ref a0, .int 0])), (q_1, .inl (cy_2, 5, .inl (fun _ => 0))), (r_3, .inr (0, [.int 0, .int (-1), .int 0, .ref l1])), (q_6, .inl (cy_7, 11, .inl (upd (upd (upd (upd (fun _ => 0) ((0 : Int32).toNatClampNeg) 0) ((1 : Int32).toNatClampNeg) 0) ((2 : Int32).toNatClampNeg) 0) ((3 : Int32).toNatClampNeg) 0))), (l1, .inr (1, [.int 0, .ref a0, .int 0]))] := hD
  refine lv_dup hx hb dX10_manyNow_93 rfl ?_
  refine lv_iconst (v := 4) hx hb dX10_manyNow_94 (by decide) ?_
  refine lv_aload_n hx hb dX10_manyNow_95 rfl (lv_at hl 2 rfl) ?_
  refine lv_iconst (v := 3) hx hb dX10_manyNow_96 (by decide) ?_
  refine va_iald hx hb hK hP 2 0 rfl rfl (by unfold vp_in; decide) dX10_manyNow_97 ?_
  refine lv_topi (fun x_16 ex_16 => ?_)
  obtain rfl : x_16 = 0 := ex_16.trans (by decide +kernel)
  refine va_iast hx hb hK hP hD hS 4 1 rfl rfl (by unfold vp_in; decide) dX10_manyNow_98 (fun H locs hP hD hS => ?_)
  have hP : va_P (dC, dI) vwCl [(m0, .inr (12, [.int 0, .ref l1, .ref l2, .int 0, .int 0, .int 0, .long s0])), (l2, .inr (1, [.int 0, .ref a0, .int 0])), (q_1, .inl (cy_2, 5, .inl (fun _ => 0))), (r_3, .inr (0, [.int 0, .int (-1), .int 0, .ref l1])), (q_6, .inl (cy_7, 11, .inl (upd (upd (upd (upd (upd (fun _ => 0) ((0 : Int32).toNatClampNeg) 0) ((1 : Int32).toNatClampNeg) 0) ((2 : Int32).toNatClampNeg) 0) ((3 : Int32).toNatClampNeg) 0) ((4 : Int32).toNatClampNeg) 0))), (l1, .inr (1, [.int 0, .ref a0, .int 0]))] H := hP
  have hD : va_D A [(m0, .inr (12, [.int 0, .ref l1, .ref l2, .int 0, .int 0, .int 0, .long s0])), (l2, .inr (1, [.int 0, .ref a0, .int 0])), (q_1, .inl (cy_2, 5, .inl (fun _ => 0))), (r_3, .inr (0, [.int 0, .int (-1), .int 0, .ref l1])), (q_6, .inl (cy_7, 11, .inl (upd (upd (upd (upd (upd (fun _ => 0) ((0 : Int32).toNatClampNeg) 0) ((1 : Int32).toNatClampNeg) 0) ((2 : Int32).toNatClampNeg) 0) ((3 : Int32).toNatClampNeg) 0) ((4 : Int32).toNatClampNeg) 0))), (l1, .inr (1, [.int 0, .ref a0, .int 0]))] := hD
  refine lv_dup hx hb dX10_manyNow_99 rfl ?_
  refine lv_iconst (v := 5) hx hb dX10_manyNow_100 (by decide) ?_
  refine lv_aload_n hx hb dX10_manyNow_101 rfl (lv_at hl 2 rfl) ?_
  refine lv_iconst (v := 4) hx hb dX10_manyNow_102 (by decide) ?_
  refine va_iald hx hb hK hP 2 0 rfl rfl (by unfold vp_in; decide) dX10_manyNow_103 ?_
  refine lv_topi (fun x_18 ex_18 => ?_)
  obtain rfl : x_18 = 0 := ex_18.trans (by decide +kernel)
  refine va_iast hx hb hK hP hD hS 4 1 rfl rfl (by unfold vp_in; decide) dX10_manyNow_104 (fun H locs hP hD hS => ?_)
  have hP : va_P (dC, dI) vwCl [(m0, .inr (12, [.int 0, .ref l1, .ref l2, .int 0, .int 0, .int 0, .long s0])), (l2, .inr (1, [.int 0, .ref a0, .int 0])), (q_1, .inl (cy_2, 5, .inl (fun _ => 0))), (r_3, .inr (0, [.int 0, .int (-1), .int 0, .ref l1])), (q_6, .inl (cy_7, 11, .inl (upd (upd (upd (upd (upd (upd (fun _ => 0) ((0 : Int32).toNatClampNeg) 0) ((1 : Int32).toNatClampNeg) 0) ((2 : Int32).toNatClampNeg) 0) ((3 : Int32).toNatClampNeg) 0) ((4 : Int32).toNatClampNeg) 0) ((5 : Int32).toNatClampNeg) 0))), (l1, .inr (1, [.int 0, .ref a0, .int 0]))] H := hP
  have hD : va_D A [(m0, .inr (12, [.int 0, .ref l1, .ref l2, .int 0, .int 0, .int 0, .long s0])), (l2, .inr (1, [.int 0, .ref a0, .int 0])), (q_1, .inl (cy_2, 5, .inl (fun _ => 0))), (r_3, .inr (0, [.int 0, .int (-1), .int 0, .ref l1])), (q_6, .inl (cy_7, 11, .inl (upd (upd (upd (upd (upd (upd (fun _ => 0) ((0 : Int32).toNatClampNeg) 0) ((1 : Int32).toNatClampNeg) 0) ((2 : Int32).toNatClampNeg) 0) ((3 : Int32).toNatClampNeg) 0) ((4 : Int32).toNatClampNeg) 0) ((5 : Int32).toNatClampNeg) 0))), (l1, .inr (1, [.int 0, .ref a0, .int 0]))] := hD
  refine lv_dup hx hb dX10_manyNow_105 rfl ?_
  refine lv_bipush (v := 6) hx hb dX10_manyNow_106 (by decide) ?_
  refine lv_aload_n hx hb dX10_manyNow_108 rfl (lv_at hl 3 rfl) ?_
  refine va_get (D := (dC, dI)) (ci := 12) (v := .ref l2) (C := RX10) (T := TX10) (N := 7) hx hb hts hiX10 hown hK hP 0 rfl rfl 2 (by decide) (hts (.fieldLink RX10 16 "HaltingaleModel" "tags" "Ljava/util/ArrayList;") (by decide +kernel)) (fun _ h9 => h9) rfl dX10_manyNow_109 ?_
  have hPc := hP.sub (ws' := [(l2, .inr (1, [.int 0, .ref a0, .int 0]))]) [1] rfl
  have hDc := hD.sub (ws' := [(l2, .inr (1, [.int 0, .ref a0, .int 0]))]) [1] (by decide) rfl
  have hKc := hK.sub (tys' := []) [] rfl
  have hFc := va_free (wc := [(l2, .inr (1, [.int 0, .ref a0, .int 0]))]) hD hS hA [1] rfl
  have hZc := ((hZ.kept hS.2.1).narrow hFc)
  refine va_calli (va_runV (As := []) (rest := [.int 6, .ref q_6, .ref q_6]) ⟨hx, hb, hml, hown, hts⟩ (c_Jx4a65c_size_8abf5 l hnt dC dI a0 l2 0 a0 0 H.size ) (cwV 0 hts (goodIn_of _ (by decide +kernel)) rfl rfl rfl (by decide +kernel) ⟨Nat.le_of_ble_eq_true rfl, Nat.le_of_ble_eq_true rfl⟩) ⟨fun a U g mk q => by obtain ⟨q0, q1, qP, qK, qD, qZ⟩ := q; exact ⟨q0, q1, qP, va_K.moved (u := U) (U := U.calling g mk a) (Vm.Alike.refl U.vm) qK, qD, qZ.call⟩, va_recv hKc hPc (ci := 1) (q0 := 0) rfl rfl, fun U hU hW => ⟨rfl, by rw [hU], by rw [hU]; exact hPc, va_K.moved hW.alike hKc, hDc.weaken (fun _ _ _ _ => trivial), by rw [hU]; exact hZc.warm hW⟩⟩ rfl rfl hl.1 rfl (lv_room (Nat.le_of_ble_eq_true rfl)) dX10_manyNow_112 ⟨Nat.le_of_ble_eq_true rfl, Nat.le_of_ble_eq_true rfl⟩) hS (fun q _ h => hFc q h) hFc (fun r_20 u t H1 locs ht hvm hw hB hz1 hk1 hS => ?_)
  obtain ⟨hP1, hK1, hD1⟩ := hB
  rw [ht] at hP1
  have hK1 := va_K.moved hvm.symm hK1
  obtain ⟨hP, hD⟩ := va_join (wr := [(m0, .inr (12, [.int 0, .ref l1, .ref l2, .int 0, .int 0, .int 0, .long s0])), (q_1, .inl (cy_2, 5, .inl (fun _ => 0))), (r_3, .inr (0, [.int 0, .int (-1), .int 0, .ref l1])), (q_6, .inl (cy_7, 11, .inl (upd (upd (upd (upd (upd (upd (fun _ => 0) ((0 : Int32).toNatClampNeg) 0) ((1 : Int32).toNatClampNeg) 0) ((2 : Int32).toNatClampNeg) 0) ((3 : Int32).toNatClampNeg) 0) ((4 : Int32).toNatClampNeg) 0) ((5 : Int32).toNatClampNeg) 0))), (l1, .inr (1, [.int 0, .ref a0, .int 0]))]) (w1 := [(l2, .inr (1, [.int 0, .ref a0, .int 0]))]) hP hD [1] [0, 2, 3, 4, 5] rfl rfl (by decide) (by decide) hk1 hFc hP1 hD1
  have hK := (hK.sub (tys' := [(cy_2, .int), (cy_7, .int)]) [0, 1] rfl).app hK1
  generalize H1 = H at hP hS ⊢
  have hP : va_P (dC, dI) vwCl [(m0, .inr (12, [.int 0, .ref l1, .ref l2, .int 0, .int 0, .int 0, .long s0])), (q_1, .inl (cy_2, 5, .inl (fun _ => 0))), (r_3, .inr (0, [.int 0, .int (-1), .int 0, .ref l1])), (q_6, .inl (cy_7, 11, .inl (upd (upd (upd (upd (upd (upd (fun _ => 0) ((0 : Int32).toNatClampNeg) 0) ((1 : Int32).toNatClampNeg) 0) ((2 : Int32).toNatClampNeg) 0) ((3 : Int32).toNatClampNeg) 0) ((4 : Int32).toNatClampNeg) 0) ((5 : Int32).toNatClampNeg) 0))), (l1, .inr (1, [.int 0, .ref a0, .int 0])), (l2, .inr (1, [.int 0, .ref a0, .int 0]))] H := hP
  have hD : va_D A [(m0, .inr (12, [.int 0, .ref l1, .ref l2, .int 0, .int 0, .int 0, .long s0])), (q_1, .inl (cy_2, 5, .inl (fun _ => 0))), (r_3, .inr (0, [.int 0, .int (-1), .int 0, .ref l1])), (q_6, .inl (cy_7, 11, .inl (upd (upd (upd (upd (upd (upd (fun _ => 0) ((0 : Int32).toNatClampNeg) 0) ((1 : Int32).toNatClampNeg) 0) ((2 : Int32).toNatClampNeg) 0) ((3 : Int32).toNatClampNeg) 0) ((4 : Int32).toNatClampNeg) 0) ((5 : Int32).toNatClampNeg) 0))), (l1, .inr (1, [.int 0, .ref a0, .int 0])), (l2, .inr (1, [.int 0, .ref a0, .int 0]))] := hD
  have hK : va_K (dC, dI) vwCl [(cy_2, .int), (cy_7, .int)] s := hK
  refine W.widen (k := 3) (n := 20) (Nat.le_of_ble_eq_true rfl) (Nat.le_of_ble_eq_true rfl) ?_
  obtain rfl : r_20 = 0 := hw
  refine va_iast hx hb hK hP hD hS 3 1 rfl rfl (by unfold vp_in; decide) dX10_manyNow_115 (fun H locs hP hD hS => ?_)
  have hP : va_P (dC, dI) vwCl [(m0, .inr (12, [.int 0, .ref l1, .ref l2, .int 0, .int 0, .int 0, .long s0])), (q_1, .inl (cy_2, 5, .inl (fun _ => 0))), (r_3, .inr (0, [.int 0, .int (-1), .int 0, .ref l1])), (q_6, .inl (cy_7, 11, .inl (upd (upd (upd (upd (upd (upd (upd (fun _ => 0) ((0 : Int32).toNatClampNeg) 0) ((1 : Int32).toNatClampNeg) 0) ((2 : Int32).toNatClampNeg) 0) ((3 : Int32).toNatClampNeg) 0) ((4 : Int32).toNatClampNeg) 0) ((5 : Int32).toNatClampNeg) 0) ((6 : Int32).toNatClampNeg) 0))), (l1, .inr (1, [.int 0, .ref a0, .int 0])), (l2, .inr (1, [.int 0, .ref a0, .int 0]))] H := hP
  have hD : va_D A [(m0, .inr (12, [.int 0, .ref l1, .ref l2, .int 0, .int 0, .int 0, .long s0])), (q_1, .inl (cy_2, 5, .inl (fun _ => 0))), (r_3, .inr (0, [.int 0, .int (-1), .int 0, .ref l1])), (q_6, .inl (cy_7, 11, .inl (upd (upd (upd (upd (upd (upd (upd (fun _ => 0) ((0 : Int32).toNatClampNeg) 0) ((1 : Int32).toNatClampNeg) 0) ((2 : Int32).toNatClampNeg) 0) ((3 : Int32).toNatClampNeg) 0) ((4 : Int32).toNatClampNeg) 0) ((5 : Int32).toNatClampNeg) 0) ((6 : Int32).toNatClampNeg) 0))), (l1, .inr (1, [.int 0, .ref a0, .int 0])), (l2, .inr (1, [.int 0, .ref a0, .int 0]))] := hD
  refine lv_dup hx hb dX10_manyNow_116 rfl ?_
  refine lv_bipush (v := 7) hx hb dX10_manyNow_117 (by decide) ?_
  refine lv_aload_n hx hb dX10_manyNow_119 rfl (lv_at hl 3 rfl) ?_
  refine va_get (D := (dC, dI)) (ci := 12) (v := .int 0) (C := RX10) (T := TX10) (N := 7) hx hb hts hiX10 hown hK hP 0 rfl rfl 3 (by decide) (hts (.fieldLink RX10 191 "HaltingaleModel" "given" "I") (by decide +kernel)) (fun _ h9 => h9) rfl dX10_manyNow_120 ?_
  refine va_iast hx hb hK hP hD hS 3 1 rfl rfl (by unfold vp_in; decide) dX10_manyNow_123 (fun H locs hP hD hS => ?_)
  have hP : va_P (dC, dI) vwCl [(m0, .inr (12, [.int 0, .ref l1, .ref l2, .int 0, .int 0, .int 0, .long s0])), (q_1, .inl (cy_2, 5, .inl (fun _ => 0))), (r_3, .inr (0, [.int 0, .int (-1), .int 0, .ref l1])), (q_6, .inl (cy_7, 11, .inl (upd (upd (upd (upd (upd (upd (upd (upd (fun _ => 0) ((0 : Int32).toNatClampNeg) 0) ((1 : Int32).toNatClampNeg) 0) ((2 : Int32).toNatClampNeg) 0) ((3 : Int32).toNatClampNeg) 0) ((4 : Int32).toNatClampNeg) 0) ((5 : Int32).toNatClampNeg) 0) ((6 : Int32).toNatClampNeg) 0) ((7 : Int32).toNatClampNeg) 0))), (l1, .inr (1, [.int 0, .ref a0, .int 0])), (l2, .inr (1, [.int 0, .ref a0, .int 0]))] H := hP
  have hD : va_D A [(m0, .inr (12, [.int 0, .ref l1, .ref l2, .int 0, .int 0, .int 0, .long s0])), (q_1, .inl (cy_2, 5, .inl (fun _ => 0))), (r_3, .inr (0, [.int 0, .int (-1), .int 0, .ref l1])), (q_6, .inl (cy_7, 11, .inl (upd (upd (upd (upd (upd (upd (upd (upd (fun _ => 0) ((0 : Int32).toNatClampNeg) 0) ((1 : Int32).toNatClampNeg) 0) ((2 : Int32).toNatClampNeg) 0) ((3 : Int32).toNatClampNeg) 0) ((4 : Int32).toNatClampNeg) 0) ((5 : Int32).toNatClampNeg) 0) ((6 : Int32).toNatClampNeg) 0) ((7 : Int32).toNatClampNeg) 0))), (l1, .inr (1, [.int 0, .ref a0, .int 0])), (l2, .inr (1, [.int 0, .ref a0, .int 0]))] := hD
  refine lv_dup hx hb dX10_manyNow_124 rfl ?_
  refine lv_bipush (v := 8) hx hb dX10_manyNow_125 (by decide) ?_
  refine lv_aload_n hx hb dX10_manyNow_127 rfl (lv_at hl 3 rfl) ?_
  refine va_get (D := (dC, dI)) (ci := 12) (v := .int 0) (C := RX10) (T := TX10) (N := 7) hx hb hts hiX10 hown hK hP 0 rfl rfl 4 (by decide) (hts (.fieldLink RX10 194 "HaltingaleModel" "taken" "I") (by decide +kernel)) (fun _ h9 => h9) rfl dX10_manyNow_128 ?_
  refine va_iast hx hb hK hP hD hS 3 1 rfl rfl (by unfold vp_in; decide) dX10_manyNow_131 (fun H locs hP hD hS => ?_)
  have hP : va_P (dC, dI) vwCl [(m0, .inr (12, [.int 0, .ref l1, .ref l2, .int 0, .int 0, .int 0, .long s0])), (q_1, .inl (cy_2, 5, .inl (fun _ => 0))), (r_3, .inr (0, [.int 0, .int (-1), .int 0, .ref l1])), (q_6, .inl (cy_7, 11, .inl (upd (upd (upd (upd (upd (upd (upd (upd (upd (fun _ => 0) ((0 : Int32).toNatClampNeg) 0) ((1 : Int32).toNatClampNeg) 0) ((2 : Int32).toNatClampNeg) 0) ((3 : Int32).toNatClampNeg) 0) ((4 : Int32).toNatClampNeg) 0) ((5 : Int32).toNatClampNeg) 0) ((6 : Int32).toNatClampNeg) 0) ((7 : Int32).toNatClampNeg) 0) ((8 : Int32).toNatClampNeg) 0))), (l1, .inr (1, [.int 0, .ref a0, .int 0])), (l2, .inr (1, [.int 0, .ref a0, .int 0]))] H := hP
  have hD : va_D A [(m0, .inr (12, [.int 0, .ref l1, .ref l2, .int 0, .int 0, .int 0, .long s0])), (q_1, .inl (cy_2, 5, .inl (fun _ => 0))), (r_3, .inr (0, [.int 0, .int (-1), .int 0, .ref l1])), (q_6, .inl (cy_7, 11, .inl (upd (upd (upd (upd (upd (upd (upd (upd (upd (fun _ => 0) ((0 : Int32).toNatClampNeg) 0) ((1 : Int32).toNatClampNeg) 0) ((2 : Int32).toNatClampNeg) 0) ((3 : Int32).toNatClampNeg) 0) ((4 : Int32).toNatClampNeg) 0) ((5 : Int32).toNatClampNeg) 0) ((6 : Int32).toNatClampNeg) 0) ((7 : Int32).toNatClampNeg) 0) ((8 : Int32).toNatClampNeg) 0))), (l1, .inr (1, [.int 0, .ref a0, .int 0])), (l2, .inr (1, [.int 0, .ref a0, .int 0]))] := hD
  refine lv_dup hx hb dX10_manyNow_132 rfl ?_
  refine lv_bipush (v := 9) hx hb dX10_manyNow_133 (by decide) ?_
  refine lv_aload_n hx hb dX10_manyNow_135 rfl (lv_at hl 3 rfl) ?_
  refine va_get (D := (dC, dI)) (ci := 12) (v := .int 0) (C := RX10) (T := TX10) (N := 7) hx hb hts hiX10 hown hK hP 0 rfl rfl 5 (by decide) (hts (.fieldLink RX10 67 "HaltingaleModel" "back" "I") (by decide +kernel)) (fun _ h9 => h9) rfl dX10_manyNow_136 ?_
  refine va_iast hx hb hK hP hD hS 3 1 rfl rfl (by unfold vp_in; decide) dX10_manyNow_139 (fun H locs hP hD hS => ?_)
  have hP : va_P (dC, dI) vwCl [(m0, .inr (12, [.int 0, .ref l1, .ref l2, .int 0, .int 0, .int 0, .long s0])), (q_1, .inl (cy_2, 5, .inl (fun _ => 0))), (r_3, .inr (0, [.int 0, .int (-1), .int 0, .ref l1])), (q_6, .inl (cy_7, 11, .inl (upd (upd (upd (upd (upd (upd (upd (upd (upd (upd (fun _ => 0) ((0 : Int32).toNatClampNeg) 0) ((1 : Int32).toNatClampNeg) 0) ((2 : Int32).toNatClampNeg) 0) ((3 : Int32).toNatClampNeg) 0) ((4 : Int32).toNatClampNeg) 0) ((5 : Int32).toNatClampNeg) 0) ((6 : Int32).toNatClampNeg) 0) ((7 : Int32).toNatClampNeg) 0) ((8 : Int32).toNatClampNeg) 0) ((9 : Int32).toNatClampNeg) 0))), (l1, .inr (1, [.int 0, .ref a0, .int 0])), (l2, .inr (1, [.int 0, .ref a0, .int 0]))] H := hP
  have hD : va_D A [(m0, .inr (12, [.int 0, .ref l1, .ref l2, .int 0, .int 0, .int 0, .long s0])), (q_1, .inl (cy_2, 5, .inl (fun _ => 0))), (r_3, .inr (0, [.int 0, .int (-1), .int 0, .ref l1])), (q_6, .inl (cy_7, 11, .inl (upd (upd (upd (upd (upd (upd (upd (upd (upd (upd (fun _ => 0) ((0 : Int32).toNatClampNeg) 0) ((1 : Int32).toNatClampNeg) 0) ((2 : Int32).toNatClampNeg) 0) ((3 : Int32).toNatClampNeg) 0) ((4 : Int32).toNatClampNeg) 0) ((5 : Int32).toNatClampNeg) 0) ((6 : Int32).toNatClampNeg) 0) ((7 : Int32).toNatClampNeg) 0) ((8 : Int32).toNatClampNeg) 0) ((9 : Int32).toNatClampNeg) 0))), (l1, .inr (1, [.int 0, .ref a0, .int 0])), (l2, .inr (1, [.int 0, .ref a0, .int 0]))] := hD
  refine lv_dup hx hb dX10_manyNow_140 rfl ?_
  refine lv_bipush (v := 10) hx hb dX10_manyNow_141 (by decide) ?_
  refine lv_iload_n hx hb dX10_manyNow_143 rfl (lv_at hl 1 rfl) ?_
  refine va_iast hx hb hK hP hD hS 3 1 rfl rfl (by unfold vp_in; decide) dX10_manyNow_144 (fun H locs hP hD hS => ?_)
  have hP : va_P (dC, dI) vwCl [(m0, .inr (12, [.int 0, .ref l1, .ref l2, .int 0, .int 0, .int 0, .long s0])), (q_1, .inl (cy_2, 5, .inl (fun _ => 0))), (r_3, .inr (0, [.int 0, .int (-1), .int 0, .ref l1])), (q_6, .inl (cy_7, 11, .inl (upd (upd (upd (upd (upd (upd (upd (upd (upd (upd (upd (fun _ => 0) ((0 : Int32).toNatClampNeg) 0) ((1 : Int32).toNatClampNeg) 0) ((2 : Int32).toNatClampNeg) 0) ((3 : Int32).toNatClampNeg) 0) ((4 : Int32).toNatClampNeg) 0) ((5 : Int32).toNatClampNeg) 0) ((6 : Int32).toNatClampNeg) 0) ((7 : Int32).toNatClampNeg) 0) ((8 : Int32).toNatClampNeg) 0) ((9 : Int32).toNatClampNeg) 0) ((10 : Int32).toNatClampNeg) 0))), (l1, .inr (1, [.int 0, .ref a0, .int 0])), (l2, .inr (1, [.int 0, .ref a0, .int 0]))] H := hP
  have hD : va_D A [(m0, .inr (12, [.int 0, .ref l1, .ref l2, .int 0, .int 0, .int 0, .long s0])), (q_1, .inl (cy_2, 5, .inl (fun _ => 0))), (r_3, .inr (0, [.int 0, .int (-1), .int 0, .ref l1])), (q_6, .inl (cy_7, 11, .inl (upd (upd (upd (upd (upd (upd (upd (upd (upd (upd (upd (fun _ => 0) ((0 : Int32).toNatClampNeg) 0) ((1 : Int32).toNatClampNeg) 0) ((2 : Int32).toNatClampNeg) 0) ((3 : Int32).toNatClampNeg) 0) ((4 : Int32).toNatClampNeg) 0) ((5 : Int32).toNatClampNeg) 0) ((6 : Int32).toNatClampNeg) 0) ((7 : Int32).toNatClampNeg) 0) ((8 : Int32).toNatClampNeg) 0) ((9 : Int32).toNatClampNeg) 0) ((10 : Int32).toNatClampNeg) 0))), (l1, .inr (1, [.int 0, .ref a0, .int 0])), (l2, .inr (1, [.int 0, .ref a0, .int 0]))] := hD
  refine lv_astore (lv' := [(4, .ref q_6), (3, .int 0), (2, .ref q_1), (0, .ref m0), (1, .int 0)]) hx hb dX10_manyNow_145 hl (by decide) rfl (fun ls hl => ?_)
  refine lv_aload hx hb dX10_manyNow_147 (lv_at hl 0 rfl) ?_
  refine lv_iload_n hx hb dX10_manyNow_149 rfl (lv_at hl 4 rfl) ?_
  refine va_iald hx hb hK hP 3 1 rfl rfl (by unfold vp_in; decide) dX10_manyNow_150 ?_
  refine lv_topi (fun x_26 ex_26 => ?_)
  obtain rfl : x_26 = 0 := ex_26.trans (by decide +kernel)
  have hP9 := hP.sub (ws' := [(m0, .inr (12, [.int 0, .ref l1, .ref l2, .int 0, .int 0, .int 0, .long s0])), (l1, .inr (1, [.int 0, .ref a0, .int 0])), (l2, .inr (1, [.int 0, .ref a0, .int 0]))]) [0, 4, 5] rfl
  have hD9 := hD.sub (ws' := [(m0, .inr (12, [.int 0, .ref l1, .ref l2, .int 0, .int 0, .int 0, .long s0])), (l1, .inr (1, [.int 0, .ref a0, .int 0])), (l2, .inr (1, [.int 0, .ref a0, .int 0]))]) [0, 4, 5] (by decide) rfl
  have hK9 := hK.sub (tys' := []) [] rfl
  refine W.widen (k := 3) (n := 20) (Nat.le_of_ble_eq_true rfl) (Nat.le_of_ble_eq_true rfl) ?_
  exact W.iret (v := 0) hx hb hr (fun t ht hW => ⟨⟨0, (), rfl, rfl, ⟨by rw [ht]; exact hP9, va_K.moved hW.alike hK9, hD9⟩⟩, hS.F ht⟩) hS.2.2 dX10_manyNow_151

def zs_c_X10_manyNow_1 : List Cond := .code yX10_manyNow cX10_manyNow 6 (some .int) :: (([.arrayClass .int, .fieldLink RX10 10 "HaltingaleModel" "machines" "Ljava/util/ArrayList;", .code yJx4a65c_iterator_32c93 cJx4a65c_iterator_32c93 1 (some (.object "java/util/Iterator")), .classLink RJx4a65c 267 RJx35411, .instantiable RJx35411 4, .initialized RJx35411, .code yJx35411_init_45d68 cJx35411_init_45d68 2 none, .fieldLink RJx35411 1 "java/util/ArrayList$Itr" "this$0" "Ljava/util/ArrayList;", .methodLink RJx35411 7 objectInit, .instanceMethod objectInit, .code objectInit ⟨#[0xb1]⟩ 1 none, .fieldLink RJx35411 13 "java/util/ArrayList$Itr" "lastRet" "I", .sameField "java/util/ArrayList" "java/util/AbstractList" "modCount" "I", .fieldLink RJx35411 17 "java/util/ArrayList" "modCount" "I", .fieldLink RJx35411 22 "java/util/ArrayList$Itr" "expectedModCount" "I", .methodLink RJx4a65c 269 yJx35411_init_45d68, .instanceMethod yJx35411_init_45d68, .methodLink RX10 158 yJx4a65c_iterator_32c93, .instanceMethod yJx4a65c_iterator_32c93, .initialized RJx4a65c, .selects RJx4a65c yJx4a65c_iterator_32c93 yJx4a65c_iterator_32c93, .code yJx35411_hasNext_aae02 cJx35411_hasNext_aae02 1 (some .boolean), .fieldLink RJx35411 25 "java/util/ArrayList$Itr" "cursor" "I", .methodLink RX10 162 ⟨"java/util/Iterator", "hasNext", "()Z"⟩, .instanceMethod yJx35411_hasNext_aae02, .selects RJx35411 ⟨"java/util/Iterator", "hasNext", "()Z"⟩ yJx35411_hasNext_aae02, .code yJx4a65c_size_8abf5 cJx4a65c_size_8abf5 1 (some .int), .fieldLink RJx4a65c 48 "java/util/ArrayList" "size" "I", .methodLink RX10 23 yJx4a65c_size_8abf5, .instanceMethod yJx4a65c_size_8abf5, .selects RJx4a65c yJx4a65c_size_8abf5 yJx4a65c_size_8abf5, .fieldLink RX10 16 "HaltingaleModel" "tags" "Ljava/util/ArrayList;", .fieldLink RX10 191 "HaltingaleModel" "given" "I", .fieldLink RX10 194 "HaltingaleModel" "taken" "I", .fieldLink RX10 67 "HaltingaleModel" "back" "I"] : List Cond) ++ wsX100 ++ wsJx354110 ++ wsJx4a65c0)
set_option maxHeartbeats 4000000 in
set_option maxRecDepth 100000 in
/-- manyNow of 1 -/
theorem c_X10_manyNow_1 (l : Launch) (hnt : l.stackTraces = false) (dC : Nat → ClassId) (dI : Nat → Nat → Nat) (a0 : Nat) (m0 : Nat) (l1 : Nat) (l2 : Nat) (s0 : Int64) (sz : Nat)  : Met l yX10_manyNow zs_c_X10_manyNow_1 ({ frames := 3, cells := 3, slots := 20, locals := 53 }) (va_Pc [.ref m0, .int 1] (fun U => U.heap.size = sz ∧ va_P (dC, dI) vwCl [(m0, .inr (12, [.int 0, .ref l1, .ref l2, .int 0, .int 0, .int 0, .long s0])), (l1, .inr (1, [.int 0, .ref a0, .int 0])), (l2, .inr (1, [.int 0, .ref a0, .int 0]))] U.heap ∧ va_K (dC, dI) vwCl [] U ∧ va_D (fun _ => True) [(m0, .inr (12, [.int 0, .ref l1, .ref l2, .int 0, .int 0, .int 0, .long s0])), (l1, .inr (1, [.int 0, .ref a0, .int 0])), (l2, .inr (1, [.int 0, .ref a0, .int 0]))] ∧ zB a0 (va_A [(m0, .inr (12, [.int 0, .ref l1, .ref l2, .int 0, .int 0, .int 0, .long s0])), (l1, .inr (1, [.int 0, .ref a0, .int 0])), (l2, .inr (1, [.int 0, .ref a0, .int 0]))] sz) U U.heap)) (va_Qi (fun (r : Int32) (_ : Unit) => r = 0) (fun _ t => va_P (dC, dI) vwCl [(m0, .inr (12, [.int 0, .ref l1, .ref l2, .int 0, .int 0, .int 0, .long s0])), (l1, .inr (1, [.int 0, .ref a0, .int 0])), (l2, .inr (1, [.int 0, .ref a0, .int 0]))] t.heap ∧ va_K (dC, dI) vwCl [] t ∧ va_D (va_A [(m0, .inr (12, [.int 0, .ref l1, .ref l2, .int 0, .int 0, .int 0, .long s0])), (l1, .inr (1, [.int 0, .ref a0, .int 0])), (l2, .inr (1, [.int 0, .ref a0, .int 0]))] sz) [(m0, .inr (12, [.int 0, .ref l1, .ref l2, .int 0, .int 0, .int 0, .long s0])), (l1, .inr (1, [.int 0, .ref a0, .int 0])), (l2, .inr (1, [.int 0, .ref a0, .int 0]))]) (va_A [(m0, .inr (12, [.int 0, .ref l1, .ref l2, .int 0, .int 0, .int 0, .long s0])), (l1, .inr (1, [.int 0, .ref a0, .int 0])), (l2, .inr (1, [.int 0, .ref a0, .int 0]))] sz)) 3 20 (va_A [(m0, .inr (12, [.int 0, .ref l1, .ref l2, .int 0, .int 0, .int 0, .long s0])), (l1, .inr (1, [.int 0, .ref a0, .int 0])), (l2, .inr (1, [.int 0, .ref a0, .int 0]))] sz) := by
  refine Met.ofW (cc := cX10_manyNow) (maxL := 6) (ret := (some .int)) (by decide) rfl ?_
  intro p e s m args below meth c s₁ B hml hv
  obtain ⟨rfl, hsz, hP, hK, hD0, hZ⟩ := hv
  have hx := B.exec
  have hb := B.bytes
  have hr := B.returns
  have hts := atoms_spec (ws := zs_c_X10_manyNow_1) B.pre
  have hown : s.vm.findClass RX10 = some m.cls := findClass_of_methodNamed B.named
  have hlocks := B.notSynchronized
  have hiX10 : ∀ w ∈ wsX100, w ∈ zs_c_X10_manyNow_1 := by decide +kernel
  subst hsz
  have hD := hD0.self (sz := s.heap.size)
  generalize hAe : va_A [(m0, .inr (12, [.int 0, .ref l1, .ref l2, .int 0, .int 0, .int 0, .long s0])), (l1, .inr (1, [.int 0, .ref a0, .int 0])), (l2, .inr (1, [.int 0, .ref a0, .int 0]))] s.heap.size = A at hD hZ ⊢
  have hA : ∀ q : Nat, s.heap.size ≤ q → A q := fun q h => by rw [← hAe]; exact Or.inr h
  have hS : va_S A s.heap s.heap [] := va_S.rf
  have hl := lv_entry ([.ref m0, .int 1]) (n := 6) (Nat.le_of_ble_eq_true rfl)
  rw [lg_entry_eq]
  generalize (lg_sl ([.ref m0, .int 1]) ++ List.replicate (6 - (lg_sl ([.ref m0, .int 1])).length) Slot.unset).toArray = ls at hl ⊢
  have hl : lv_has ls 6 [(0, .ref m0), (1, .int 1)] := hl
  refine lv_iconst (v := 5) hx hb dX10_manyNow_0 (by decide) ?_
  refine va_newa (atype := .int) (ty := .int) (N' := 5) (a0 := (5, .inl (fun _ => 0))) hx hb (hts (.arrayClass .int) (by decide +kernel)) rfl hK hP hD hS hA (fun _ => rfl) (by decide) (by decide) (Nat.le_of_ble_eq_true rfl) (Nat.le_of_ble_eq_true rfl) (Nat.le_of_ble_eq_true rfl) dX10_manyNow_1 (fun q_1 cy_2 H hK hP hD hS => ?_)
  have hK : va_K (dC, dI) vwCl [(cy_2, .int)] s := hK
  have hP : va_P (dC, dI) vwCl [(m0, .inr (12, [.int 0, .ref l1, .ref l2, .int 0, .int 0, .int 0, .long s0])), (l1, .inr (1, [.int 0, .ref a0, .int 0])), (l2, .inr (1, [.int 0, .ref a0, .int 0])), (q_1, .inl (cy_2, 5, .inl (fun _ => 0)))] H := hP
  have hD : va_D A [(m0, .inr (12, [.int 0, .ref l1, .ref l2, .int 0, .int 0, .int 0, .long s0])), (l1, .inr (1, [.int 0, .ref a0, .int 0])), (l2, .inr (1, [.int 0, .ref a0, .int 0])), (q_1, .inl (cy_2, 5, .inl (fun _ => 0)))] := hD
  refine W.widen (k := 1) (n := 5) (Nat.le_of_ble_eq_true rfl) (Nat.le_of_ble_eq_true rfl) ?_
  refine lv_astore_n (lv' := [(2, .ref q_1), (0, .ref m0), (1, .int 1)]) hx hb dX10_manyNow_3 rfl hl (by decide) rfl (fun ls hl => ?_)
  refine lv_iconst (v := 0) hx hb dX10_manyNow_4 (by decide) ?_
  refine lv_istore_n (lv' := [(3, .int 0), (2, .ref q_1), (0, .ref m0), (1, .int 1)]) hx hb dX10_manyNow_5 rfl hl (by decide) rfl (fun ls hl => ?_)
  refine lv_aload_n hx hb dX10_manyNow_6 rfl (lv_at hl 2 rfl) ?_
  refine va_get (D := (dC, dI)) (ci := 12) (v := .ref l1) (C := RX10) (T := TX10) (N := 7) hx hb hts hiX10 hown hK hP 0 rfl rfl 1 (by decide) (hts (.fieldLink RX10 10 "HaltingaleModel" "machines" "Ljava/util/ArrayList;") (by decide +kernel)) (fun _ h9 => h9) rfl dX10_manyNow_7 ?_
  have hPc := hP.sub (ws' := [(l1, .inr (1, [.int 0, .ref a0, .int 0]))]) [1] rfl
  have hDc := hD.sub (ws' := [(l1, .inr (1, [.int 0, .ref a0, .int 0]))]) [1] (by decide) rfl
  have hKc := hK.sub (tys' := []) [] rfl
  have hFc := va_free (wc := [(l1, .inr (1, [.int 0, .ref a0, .int 0]))]) hD hS hA [1] rfl
  have hZc := ((hZ.kept hS.2.1).narrow hFc)
  refine va_callr (va_runV (As := []) (rest := []) ⟨hx, hb, hml, hown, hts⟩ (c_Jx4a65c_iterator_32c93 l hnt dC dI a0 l1 H.size ) (cwV 0 hts (goodIn_of _ (by decide +kernel)) rfl rfl rfl (by decide +kernel) ⟨Nat.le_of_ble_eq_true rfl, Nat.le_of_ble_eq_true rfl⟩) ⟨fun a U g mk q => by obtain ⟨q0, q1, qP, qK, qD, qZ⟩ := q; exact ⟨q0, q1, qP, va_K.moved (u := U) (U := U.calling g mk a) (Vm.Alike.refl U.vm) qK, qD, qZ.call⟩, va_recv hKc hPc (ci := 1) (q0 := 0) rfl rfl, fun U hU hW => ⟨rfl, by rw [hU], by rw [hU]; exact hPc, va_K.moved hW.alike hKc, hDc.weaken (fun _ _ _ _ => trivial), by rw [hU]; exact hZc.warm hW⟩⟩ rfl rfl hl.1 rfl (lv_room (Nat.le_of_ble_eq_true rfl)) dX10_manyNow_10 ⟨Nat.le_of_ble_eq_true rfl, Nat.le_of_ble_eq_true rfl⟩) hS (fun q _ h => hFc q h) hFc (fun u r_3 t H1 locs ht hvm hw hB hz1 hk1 hS => ?_)
  obtain ⟨hP1, hK1, hD1⟩ := hB
  rw [ht] at hP1
  have hK1 := va_K.moved hvm.symm hK1
  obtain ⟨hP, hD⟩ := va_join (wr := [(m0, .inr (12, [.int 0, .ref l1, .ref l2, .int 0, .int 0, .int 0, .long s0])), (l2, .inr (1, [.int 0, .ref a0, .int 0])), (q_1, .inl (cy_2, 5, .inl (fun _ => 0)))]) (w1 := [(r_3, .inr (0, [.int 0, .int (-1), .int 0, .ref l1])), (l1, .inr (1, [.int 0, .ref a0, .int 0]))]) hP hD [1] [0, 2, 3] rfl rfl (by decide) (by decide) hk1 hFc hP1 hD1
  have hK := (hK.sub (tys' := [(cy_2, .int)]) [0] rfl).app hK1
  generalize H1 = H at hP hS ⊢
  have hP : va_P (dC, dI) vwCl [(m0, .inr (12, [.int 0, .ref l1, .ref l2, .int 0, .int 0, .int 0, .long s0])), (l2, .inr (1, [.int 0, .ref a0, .int 0])), (q_1, .inl (cy_2, 5, .inl (fun _ => 0))), (r_3, .inr (0, [.int 0, .int (-1), .int 0, .ref l1])), (l1, .inr (1, [.int 0, .ref a0, .int 0]))] H := hP
  have hD : va_D A [(m0, .inr (12, [.int 0, .ref l1, .ref l2, .int 0, .int 0, .int 0, .long s0])), (l2, .inr (1, [.int 0, .ref a0, .int 0])), (q_1, .inl (cy_2, 5, .inl (fun _ => 0))), (r_3, .inr (0, [.int 0, .int (-1), .int 0, .ref l1])), (l1, .inr (1, [.int 0, .ref a0, .int 0]))] := hD
  have hK : va_K (dC, dI) vwCl [(cy_2, .int)] s := hK
  refine W.widen (k := 2) (n := 9) (Nat.le_of_ble_eq_true rfl) (Nat.le_of_ble_eq_true rfl) ?_
  refine lv_astore (lv' := [(4, .ref r_3), (3, .int 0), (2, .ref q_1), (0, .ref m0), (1, .int 1)]) hx hb dX10_manyNow_13 hl (by decide) rfl (fun ls hl => ?_)
  refine lv_aload hx hb dX10_manyNow_15 (lv_at hl 0 rfl) ?_
  have hPc := hP.sub (ws' := [(r_3, .inr (0, [.int 0, .int (-1), .int 0, .ref l1])), (l1, .inr (1, [.int 0, .ref a0, .int 0]))]) [3, 4] rfl
  have hDc := hD.sub (ws' := [(r_3, .inr (0, [.int 0, .int (-1), .int 0, .ref l1])), (l1, .inr (1, [.int 0, .ref a0, .int 0]))]) [3, 4] (by decide) rfl
  have hKc := hK.sub (tys' := []) [] rfl
  have hFc := va_free (wc := [(r_3, .inr (0, [.int 0, .int (-1), .int 0, .ref l1])), (l1, .inr (1, [.int 0, .ref a0, .int 0]))]) hD hS hA [3, 4] rfl
  have hZc := ((hZ.kept hS.2.1).narrow hFc)
  refine va_callFi (va_runF (As := []) (rest := []) (zz_at hK 0 rfl) ⟨hx, hb, hml, hown, hts⟩ (c_Jx35411_hasNext_aae02 l hnt dC dI a0 r_3 l1 H.size ) (va_cwF 0 hts (goodIn_of _ (by decide +kernel)) rfl rfl rfl hZ.fwN (by decide +kernel) ⟨Nat.le_of_ble_eq_true rfl, Nat.le_of_ble_eq_true rfl⟩) ⟨fun a U g mk q => by obtain ⟨q0, q1, qP, qK, qD, qZ⟩ := q; exact ⟨q0, q1, qP, va_K.moved (u := U) (U := U.calling g mk a) (Vm.Alike.refl U.vm) qK, qD, qZ.call⟩, va_recv hKc hPc (ci := 0) (q0 := 0) rfl rfl, fun U hU hW => ⟨rfl, by rw [hU], by rw [hU]; exact hPc, va_K.moved hW.alike hKc, hDc.weaken (fun _ _ _ _ => trivial), by rw [hU]; exact hZc.warm hW⟩⟩ rfl rfl hl.1 rfl (lv_room (Nat.le_of_ble_eq_true rfl)) dX10_manyNow_17 ⟨Nat.le_of_ble_eq_true rfl, Nat.le_of_ble_eq_true rfl⟩) hS (fun q _ h => hFc q h) hFc (fun r_4 u t H1 locs ht hvm hw hB hz1 hk1 hS => ?_)
  obtain ⟨hP1, hK1, hD1⟩ := hB
  rw [ht] at hP1
  have hK1 := va_K.moved hvm.symm hK1
  obtain ⟨hP, hD⟩ := va_join (wr := [(m0, .inr (12, [.int 0, .ref l1, .ref l2, .int 0, .int 0, .int 0, .long s0])), (l2, .inr (1, [.int 0, .ref a0, .int 0])), (q_1, .inl (cy_2, 5, .inl (fun _ => 0)))]) (w1 := [(r_3, .inr (0, [.int 0, .int (-1), .int 0, .ref l1])), (l1, .inr (1, [.int 0, .ref a0, .int 0]))]) hP hD [3, 4] [0, 1, 2] rfl rfl (by decide) (by decide) hk1 hFc hP1 hD1
  have hK := (hK.sub (tys' := [(cy_2, .int)]) [0] rfl).app hK1
  generalize H1 = H at hP hS ⊢
  have hP : va_P (dC, dI) vwCl [(m0, .inr (12, [.int 0, .ref l1, .ref l2, .int 0, .int 0, .int 0, .long s0])), (l2, .inr (1, [.int 0, .ref a0, .int 0])), (q_1, .inl (cy_2, 5, .inl (fun _ => 0))), (r_3, .inr (0, [.int 0, .int (-1), .int 0, .ref l1])), (l1, .inr (1, [.int 0, .ref a0, .int 0]))] H := hP
  have hD : va_D A [(m0, .inr (12, [.int 0, .ref l1, .ref l2, .int 0, .int 0, .int 0, .long s0])), (l2, .inr (1, [.int 0, .ref a0, .int 0])), (q_1, .inl (cy_2, 5, .inl (fun _ => 0))), (r_3, .inr (0, [.int 0, .int (-1), .int 0, .ref l1])), (l1, .inr (1, [.int 0, .ref a0, .int 0]))] := hD
  have hK : va_K (dC, dI) vwCl [(cy_2, .int)] s := hK
  refine W.widen (k := 2) (n := 9) (Nat.le_of_ble_eq_true rfl) (Nat.le_of_ble_eq_true rfl) ?_
  obtain rfl : r_4 = 0 := hw
  refine lv_if_eq (tgt := 61) hx hb dX10_manyNow_22 (by decide) (fun c_5 => ?_) (fun c_5 => ?_)
  rotate_left
  · (first | exact absurd c_5 (by decide) | exact absurd (by decide) c_5)
  refine lv_bipush (v := 11) hx hb dX10_manyNow_61 (by decide) ?_
  refine va_newa (atype := .int) (ty := .int) (N' := 11) (a0 := (11, .inl (fun _ => 0))) hx hb (hts (.arrayClass .int) (by decide +kernel)) rfl hK hP hD hS hA (fun _ => rfl) (by decide) (by decide) (Nat.le_of_ble_eq_true rfl) (Nat.le_of_ble_eq_true rfl) (Nat.le_of_ble_eq_true rfl) dX10_manyNow_63 (fun q_6 cy_7 H hK hP hD hS => ?_)
  have hK : va_K (dC, dI) vwCl [(cy_2, .int), (cy_7, .int)] s := hK
  have hP : va_P (dC, dI) vwCl [(m0, .inr (12, [.int 0, .ref l1, .ref l2, .int 0, .int 0, .int 0, .long s0])), (l2, .inr (1, [.int 0, .ref a0, .int 0])), (q_1, .inl (cy_2, 5, .inl (fun _ => 0))), (r_3, .inr (0, [.int 0, .int (-1), .int 0, .ref l1])), (l1, .inr (1, [.int 0, .ref a0, .int 0])), (q_6, .inl (cy_7, 11, .inl (fun _ => 0)))] H := hP
  have hD : va_D A [(m0, .inr (12, [.int 0, .ref l1, .ref l2, .int 0, .int 0, .int 0, .long s0])), (l2, .inr (1, [.int 0, .ref a0, .int 0])), (q_1, .inl (cy_2, 5, .inl (fun _ => 0))), (r_3, .inr (0, [.int 0, .int (-1), .int 0, .ref l1])), (l1, .inr (1, [.int 0, .ref a0, .int 0])), (q_6, .inl (cy_7, 11, .inl (fun _ => 0)))] := hD
  refine W.widen (k := 3) (n := 20) (Nat.le_of_ble_eq_true rfl) (Nat.le_of_ble_eq_true rfl) ?_
  refine lv_dup hx hb dX10_manyNow_65 rfl ?_
  refine lv_iconst (v := 0) hx hb dX10_manyNow_66 (by decide) ?_
  refine lv_aload_n hx hb dX10_manyNow_67 rfl (lv_at hl 3 rfl) ?_
  refine va_get (D := (dC, dI)) (ci := 12) (v := .ref l1) (C := RX10) (T := TX10) (N := 7) hx hb hts hiX10 hown hK hP 0 rfl rfl 1 (by decide) (hts (.fieldLink RX10 10 "HaltingaleModel" "machines" "Ljava/util/ArrayList;") (by decide +kernel)) (fun _ h9 => h9) rfl dX10_manyNow_68 ?_
  have hPc := hP.sub (ws' := [(l1, .inr (1, [.int 0, .ref a0, .int 0]))]) [4] rfl
  have hDc := hD.sub (ws' := [(l1, .inr (1, [.int 0, .ref a0, .int 0]))]) [4] (by decide) rfl
  have hKc := hK.sub (tys' := []) [] rfl
  have hFc := va_free (wc := [(l1, .inr (1, [.int 0, .ref a0, .int 0]))]) hD hS hA [4] rfl
  have hZc := ((hZ.kept hS.2.1).narrow hFc)
  refine va_calli (va_runV (As := []) (rest := [.int 0, .ref q_6, .ref q_6]) ⟨hx, hb, hml, hown, hts⟩ (c_Jx4a65c_size_8abf5 l hnt dC dI a0 l1 0 a0 0 H.size ) (cwV 0 hts (goodIn_of _ (by decide +kernel)) rfl rfl rfl (by decide +kernel) ⟨Nat.le_of_ble_eq_true rfl, Nat.le_of_ble_eq_true rfl⟩) ⟨fun a U g mk q => by obtain ⟨q0, q1, qP, qK, qD, qZ⟩ := q; exact ⟨q0, q1, qP, va_K.moved (u := U) (U := U.calling g mk a) (Vm.Alike.refl U.vm) qK, qD, qZ.call⟩, va_recv hKc hPc (ci := 1) (q0 := 0) rfl rfl, fun U hU hW => ⟨rfl, by rw [hU], by rw [hU]; exact hPc, va_K.moved hW.alike hKc, hDc.weaken (fun _ _ _ _ => trivial), by rw [hU]; exact hZc.warm hW⟩⟩ rfl rfl hl.1 rfl (lv_room (Nat.le_of_ble_eq_true rfl)) dX10_manyNow_71 ⟨Nat.le_of_ble_eq_true rfl, Nat.le_of_ble_eq_true rfl⟩) hS (fun q _ h => hFc q h) hFc (fun r_8 u t H1 locs ht hvm hw hB hz1 hk1 hS => ?_)
  obtain ⟨hP1, hK1, hD1⟩ := hB
  rw [ht] at hP1
  have hK1 := va_K.moved hvm.symm hK1
  obtain ⟨hP, hD⟩ := va_join (wr := [(m0, .inr (12, [.int 0, .ref l1, .ref l2, .int 0, .int 0, .int 0, .long s0])), (l2, .inr (1, [.int 0, .ref a0, .int 0])), (q_1, .inl (cy_2, 5, .inl (fun _ => 0))), (r_3, .inr (0, [.int 0, .int (-1), .int 0, .ref l1])), (q_6, .inl (cy_7, 11, .inl (fun _ => 0)))]) (w1 := [(l1, .inr (1, [.int 0, .ref a0, .int 0]))]) hP hD [4] [0, 1, 2, 3, 5] rfl rfl (by decide) (by decide) hk1 hFc hP1 hD1
  have hK := (hK.sub (tys' := [(cy_2, .int), (cy_7, .int)]) [0, 1] rfl).app hK1
  generalize H1 = H at hP hS ⊢
  have hP : va_P (dC, dI) vwCl [(m0, .inr (12, [.int 0, .ref l1, .ref l2, .int 0, .int 0, .int 0, .long s0])), (l2, .inr (1, [.int 0, .ref a0, .int 0])), (q_1, .inl (cy_2, 5, .inl (fun _ => 0))), (r_3, .inr (0, [.int 0, .int (-1), .int 0, .ref l1])), (q_6, .inl (cy_7, 11, .inl (fun _ => 0))), (l1, .inr (1, [.int 0, .ref a0, .int 0]))] H := hP
  have hD : va_D A [(m0, .inr (12, [.int 0, .ref l1, .ref l2, .int 0, .int 0, .int 0, .long s0])), (l2, .inr (1, [.int 0, .ref a0, .int 0])), (q_1, .inl (cy_2, 5, .inl (fun _ => 0))), (r_3, .inr (0, [.int 0, .int (-1), .int 0, .ref l1])), (q_6, .inl (cy_7, 11, .inl (fun _ => 0))), (l1, .inr (1, [.int 0, .ref a0, .int 0]))] := hD
  have hK : va_K (dC, dI) vwCl [(cy_2, .int), (cy_7, .int)] s := hK
  refine W.widen (k := 3) (n := 20) (Nat.le_of_ble_eq_true rfl) (Nat.le_of_ble_eq_true rfl) ?_
  obtain rfl : r_8 = 0 := hw
  refine va_iast hx hb hK hP hD hS 4 1 rfl rfl (by unfold vp_in; decide) dX10_manyNow_74 (fun H locs hP hD hS => ?_)
  have hP : va_P (dC, dI) vwCl [(m0, .inr (12, [.int 0, .ref l1, .ref l2, .int 0, .int 0, .int 0, .long s0])), (l2, .inr (1, [.int 0, .ref a0, .int 0])), (q_1, .inl (cy_2, 5, .inl (fun _ => 0))), (r_3, .inr (0, [.int 0, .int (-1), .int 0, .ref l1])), (q_6, .inl (cy_7, 11, .inl (upd (fun _ => 0) ((0 : Int32).toNatClampNeg) 0))), (l1, .inr (1, [.int 0, .ref a0, .int 0]))] H := hP
  have hD : va_D A [(m0, .inr (12, [.int 0, .ref l1, .ref l2, .int 0, .int 0, .int 0, .long s0])), (l2, .inr (1, [.int 0, .ref a0, .int 0])), (q_1, .inl (cy_2, 5, .inl (fun _ => 0))), (r_3, .inr (0, [.int 0, .int (-1), .int 0, .ref l1])), (q_6, .inl (cy_7, 11, .inl (upd (fun _ => 0) ((0 : Int32).toNatClampNeg) 0))), (l1, .inr (1, [.int 0, .ref a0, .int 0]))] := hD
  refine lv_dup hx hb dX10_manyNow_75 rfl ?_
  refine lv_iconst (v := 1) hx hb dX10_manyNow_76 (by decide) ?_
  refine lv_aload_n hx hb dX10_manyNow_77 rfl (lv_at hl 2 rfl) ?_
  refine lv_iconst (v := 0) hx hb dX10_manyNow_78 (by decide) ?_
  refine va_iald hx hb hK hP 2 0 rfl rfl (by unfold vp_in; decide) dX10_manyNow_79 ?_
  refine lv_topi (fun x_10 ex_10 => ?_)
  obtain rfl : x_10 = 0 := ex_10.trans (by decide +kernel)
  refine va_iast hx hb hK hP hD hS 4 1 rfl rfl (by unfold vp_in; decide) dX10_manyNow_80 (fun H locs hP hD hS => ?_)
  have hP : va_P (dC, dI) vwCl [(m0, .inr (12, [.int 0, .ref l1, .ref l2, .int 0, .int 0, .int 0, .long s0])), (l2, .inr (1, [.int 0, .ref a0, .int 0])), (q_1, .inl (cy_2, 5, .inl (fun _ => 0))), (r_3, .inr (0, [.int 0, .int (-1), .int 0, .ref l1])), (q_6, .inl (cy_7, 11, .inl (upd (upd (fun _ => 0) ((0 : Int32).toNatClampNeg) 0) ((1 : Int32).toNatClampNeg) 0))), (l1, .inr (1, [.int 0, .ref a0, .int 0]))] H := hP
  have hD : va_D A [(m0, .inr (12, [.int 0, .ref l1, .ref l2, .int 0, .int 0, .int 0, .long s0])), (l2, .inr (1, [.int 0, .ref a0, .int 0])), (q_1, .inl (cy_2, 5, .inl (fun _ => 0))), (r_3, .inr (0, [.int 0, .int (-1), .int 0, .ref l1])), (q_6, .inl (cy_7, 11, .inl (upd (upd (fun _ => 0) ((0 : Int32).toNatClampNeg) 0) ((1 : Int32).toNatClampNeg) 0))), (l1, .inr (1, [.int 0, .ref a0, .int 0]))] := hD
  refine lv_dup hx hb dX10_manyNow_81 rfl ?_
  refine lv_iconst (v := 2) hx hb dX10_manyNow_82 (by decide) ?_
  refine lv_aload_n hx hb dX10_manyNow_83 rfl (lv_at hl 2 rfl) ?_
  refine lv_iconst (v := 1) hx hb dX10_manyNow_84 (by decide) ?_
  refine va_iald hx hb hK hP 2 0 rfl rfl (by unfold vp_in; decide) dX10_manyNow_85 ?_
  refine lv_topi (fun x_12 ex_12 => ?_)
  obtain rfl : x_12 = 0 := ex_12.trans (by decide +kernel)
  refine va_iast hx hb hK hP hD hS 4 1 rfl rfl (by unfold vp_in; decide) dX10_manyNow_86 (fun H locs hP hD hS => ?_)
  have hP : va_P (dC, dI) vwCl [(m0, .inr (12, [.int 0, .ref l1, .ref l2, .int 0, .int 0, .int 0, .long s0])), (l2, .inr (1, [.int 0, .ref a0, .int 0])), (q_1, .inl (cy_2, 5, .inl (fun _ => 0))), (r_3, .inr (0, [.int 0, .int (-1), .int 0, .ref l1])), (q_6, .inl (cy_7, 11, .inl (upd (upd (upd (fun _ => 0) ((0 : Int32).toNatClampNeg) 0) ((1 : Int32).toNatClampNeg) 0) ((2 : Int32).toNatClampNeg) 0))), (l1, .inr (1, [.int 0, .ref a0, .int 0]))] H := hP
  have hD : va_D A [(m0, .inr (12, [.int 0, .ref l1, .ref l2, .int 0, .int 0, .int 0, .long s0])), (l2, .inr (1, [.int 0, .ref a0, .int 0])), (q_1, .inl (cy_2, 5, .inl (fun _ => 0))), (r_3, .inr (0, [.int 0, .int (-1), .int 0, .ref l1])), (q_6, .inl (cy_7, 11, .inl (upd (upd (upd (fun _ => 0) ((0 : Int32).toNatClampNeg) 0) ((1 : Int32).toNatClampNeg) 0) ((2 : Int32).toNatClampNeg) 0))), (l1, .inr (1, [.int 0, .ref a0, .int 0]))] := hD
  refine lv_dup hx hb dX10_manyNow_87 rfl ?_
  refine lv_iconst (v := 3) hx hb dX10_manyNow_88 (by decide) ?_
  refine lv_aload_n hx hb dX10_manyNow_89 rfl (lv_at hl 2 rfl) ?_
  refine lv_iconst (v := 2) hx hb dX10_manyNow_90 (by decide) ?_
  refine va_iald hx hb hK hP 2 0 rfl rfl (by unfold vp_in; decide) dX10_manyNow_91 ?_
  refine lv_topi (fun x_14 ex_14 => ?_)
  obtain rfl : x_14 = 0 := ex_14.trans (by decide +kernel)
  refine va_iast hx hb hK hP hD hS 4 1 rfl rfl (by unfold vp_in; decide) dX10_manyNow_92 (fun H locs hP hD hS => ?_)
  have hP : va_P (dC, dI) vwCl [(m0, .inr (12, [.int 0, .ref l1, .ref l2, .int 0, .int 0, .int 0, .long s0])), (l2, .inr (1, [.int 0, .ref a0, .int 0])), (q_1, .inl (cy_2, 5, .inl (fun _ => 0))), (r_3, .inr (0, [.int 0, .int (-1), .int 0, .ref l1])), (q_6, .inl (cy_7, 11, .inl (upd (upd (upd (upd (fun _ => 0) ((0 : Int32).toNatClampNeg) 0) ((1 : Int32).toNatClampNeg) 0) ((2 : Int32).toNatClampNeg) 0) ((3 : Int32).toNatClampNeg) 0))), (l1, .inr (1, [.int 0, .ref a0, .int 0]))] H := hP
  have hD : va_D A [(m0, .inr (12, [.int 0, .ref l1, .ref l2, .int 0, .int 0, .int 0, .long s0])), (l2, .inr (1, [.int 0, .ref a0, .int 0])), (q_1, .inl (cy_2, 5, .inl (fun _ => 0))), (r_3, .inr (0, [.int 0, .int (-1), .int 0, .ref l1])), (q_6, .inl (cy_7, 11, .inl (upd (upd (upd (upd (fun _ => 0) ((0 : Int32).toNatClampNeg) 0) ((1 : Int32).toNatClampNeg) 0) ((2 : Int32).toNatClampNeg) 0) ((3 : Int32).toNatClampNeg) 0))), (l1, .inr (1, [.int 0, .ref a0, .int 0]))] := hD
  refine lv_dup hx hb dX10_manyNow_93 rfl ?_
  refine lv_iconst (v := 4) hx hb dX10_manyNow_94 (by decide) ?_
  refine lv_aload_n hx hb dX10_manyNow_95 rfl (lv_at hl 2 rfl) ?_
  refine lv_iconst (v := 3) hx hb dX10_manyNow_96 (by decide) ?_
  refine va_iald hx hb hK hP 2 0 rfl rfl (by unfold vp_in; decide) dX10_manyNow_97 ?_
  refine lv_topi (fun x_16 ex_16 => ?_)
  obtain rfl : x_16 = 0 := ex_16.trans (by decide +kernel)
  refine va_iast hx hb hK hP hD hS 4 1 rfl rfl (by unfold vp_in; decide) dX10_manyNow_98 (fun H locs hP hD hS => ?_)
  have hP : va_P (dC, dI) vwCl [(m0, .inr (12, [.int 0, .ref l1, .ref l2, .int 0, .int 0, .int 0, .long s0])), (l2, .inr (1, [.int 0, .ref a0, .int 0])), (q_1, .inl (cy_2, 5, .inl (fun _ => 0))), (r_3, .inr (0, [.int 0, .int (-1), .int 0, .ref l1])), (q_6, .inl (cy_7, 11, .inl (upd (upd (upd (upd (upd (fun _ => 0) ((0 : Int32).toNatClampNeg) 0) ((1 : Int32).toNatClampNeg) 0) ((2 : Int32).toNatClampNeg) 0) ((3 : Int32).toNatClampNeg) 0) ((4 : Int32).toNatClampNeg) 0))), (l1, .inr (1, [.int 0, .ref a0, .int 0]))] H := hP
  have hD : va_D A [(m0, .inr (12, [.int 0, .ref l1, .ref l2, .int 0, .int 0, .int 0, .long s0])), (l2, .inr (1, [.int 0, .ref a0, .int 0])), (q_1, .inl (cy_2, 5, .inl (fun _ => 0))), (r_3, .inr (0, [.int 0, .int (-1), .int 0, .ref l1])), (q_6, .inl (cy_7, 11, .inl (upd (upd (upd (upd (upd (fun _ => 0) ((0 : Int32).toNatClampNeg) 0) ((1 : Int32).toNatClampNeg) 0) ((2 : Int32).toNatClampNeg) 0) ((3 : Int32).toNatClampNeg) 0) ((4 : Int32).toNatClampNeg) 0))), (l1, .inr (1, [.int 0, .ref a0, .int 0]))] := hD
  refine lv_dup hx hb dX10_manyNow_99 rfl ?_
  refine lv_iconst (v := 5) hx hb dX10_manyNow_100 (by decide) ?_
  refine lv_aload_n hx hb dX10_manyNow_101 rfl (lv_at hl 2 rfl) ?_
  refine lv_iconst (v := 4) hx hb dX10_manyNow_102 (by decide) ?_
  refine va_iald hx hb hK hP 2 0 rfl rfl (by unfold vp_in; decide) dX10_manyNow_103 ?_
  refine lv_topi (fun x_18 ex_18 => ?_)
  obtain rfl : x_18 = 0 := ex_18.trans (by decide +kernel)
  refine va_iast hx hb hK hP hD hS 4 1 rfl rfl (by unfold vp_in; decide) dX10_manyNow_104 (fun H locs hP hD hS => ?_)
  have hP : va_P (dC, dI) vwCl [(m0, .inr (12, [.int 0, .ref l1, .ref l2, .int 0, .int 0, .int 0, .long s0])), (l2, .inr (1, [.int 0, .ref a0, .int 0])), (q_1, .inl (cy_2, 5, .inl (fun _ => 0))), (r_3, .inr (0, [.int 0, .int (-1), .int 0, .ref l1])), (q_6, .inl (cy_7, 11, .inl (upd (upd (upd (upd (upd (upd (fun _ => 0) ((0 : Int32).toNatClampNeg) 0) ((1 : Int32).toNatClampNeg) 0) ((2 : Int32).toNatClampNeg) 0) ((3 : Int32).toNatClampNeg) 0) ((4 : Int32).toNatClampNeg) 0) ((5 : Int32).toNatClampNeg) 0))), (l1, .inr (1, [.int 0, .ref a0, .int 0]))] H := hP
  have hD : va_D A [(m0, .inr (12, [.int 0, .ref l1, .ref l2, .int 0, .int 0, .int 0, .long s0])), (l2, .inr (1, [.int 0, .ref a0, .int 0])), (q_1, .inl (cy_2, 5, .inl (fun _ => 0))), (r_3, .inr (0, [.int 0, .int (-1), .int 0, .ref l1])), (q_6, .inl (cy_7, 11, .inl (upd (upd (upd (upd (upd (upd (fun _ => 0) ((0 : Int32).toNatClampNeg) 0) ((1 : Int32).toNatClampNeg) 0) ((2 : Int32).toNatClampNeg) 0) ((3 : Int32).toNatClampNeg) 0) ((4 : Int32).toNatClampNeg) 0) ((5 : Int32).toNatClampNeg) 0))), (l1, .inr (1, [.int 0, .ref a0, .int 0]))] := hD
  refine lv_dup hx hb dX10_manyNow_105 rfl ?_
  refine lv_bipush (v := 6) hx hb dX10_manyNow_106 (by decide) ?_
  refine lv_aload_n hx hb dX10_manyNow_108 rfl (lv_at hl 3 rfl) ?_
  refine va_get (D := (dC, dI)) (ci := 12) (v := .ref l2) (C := RX10) (T := TX10) (N := 7) hx hb hts hiX10 hown hK hP 0 rfl rfl 2 (by decide) (hts (.fieldLink RX10 16 "HaltingaleModel" "tags" "Ljava/util/ArrayList;") (by decide +kernel)) (fun _ h9 => h9) rfl dX10_manyNow_109 ?_
  have hPc := hP.sub (ws' := [(l2, .inr (1, [.int 0, .ref a0, .int 0]))]) [1] rfl
  have hDc := hD.sub (ws' := [(l2, .inr (1, [.int 0, .ref a0, .int 0]))]) [1] (by decide) rfl
  have hKc := hK.sub (tys' := []) [] rfl
  have hFc := va_free (wc := [(l2, .inr (1, [.int 0, .ref a0, .int 0]))]) hD hS hA [1] rfl
  have hZc := ((hZ.kept hS.2.1).narrow hFc)
  refine va_calli (va_runV (As := []) (rest := [.int 6, .ref q_6, .ref q_6]) ⟨hx, hb, hml, hown, hts⟩ (c_Jx4a65c_size_8abf5 l hnt dC dI a0 l2 0 a0 0 H.size ) (cwV 0 hts (goodIn_of _ (by decide +kernel)) rfl rfl rfl (by decide +kernel) ⟨Nat.le_of_ble_eq_true rfl, Nat.le_of_ble_eq_true rfl⟩) ⟨fun a U g mk q => by obtain ⟨q0, q1, qP, qK, qD, qZ⟩ := q; exact ⟨q0, q1, qP, va_K.moved (u := U) (U := U.calling g mk a) (Vm.Alike.refl U.vm) qK, qD, qZ.call⟩, va_recv hKc hPc (ci := 1) (q0 := 0) rfl rfl, fun U hU hW => ⟨rfl, by rw [hU], by rw [hU]; exact hPc, va_K.moved hW.alike hKc, hDc.weaken (fun _ _ _ _ => trivial), by rw [hU]; exact hZc.warm hW⟩⟩ rfl rfl hl.1 rfl (lv_room (Nat.le_of_ble_eq_true rfl)) dX10_manyNow_112 ⟨Nat.le_of_ble_eq_true rfl, Nat.le_of_ble_eq_true rfl⟩) hS (fun q _ h => hFc q h) hFc (fun r_20 u t H1 locs ht hvm hw hB hz1 hk1 hS => ?_)
  obtain ⟨hP1, hK1, hD1⟩ := hB
  rw [ht] at hP1
  have hK1 := va_K.moved hvm.symm hK1
  obtain ⟨hP, hD⟩ := va_join (wr := [(m0, .inr (12, [.int 0, .ref l1, .ref l2, .int 0, .int 0, .int 0, .long s0])), (q_1, .inl (cy_2, 5, .inl (fun _ => 0))), (r_3, .inr (0, [.int 0, .int (-1), .int 0, .ref l1])), (q_6, .inl (cy_7, 11, .inl (upd (upd (upd (upd (upd (upd (fun _ => 0) ((0 : Int32).toNatClampNeg) 0) ((1 : Int32).toNatClampNeg) 0) ((2 : Int32).toNatClampNeg) 0) ((3 : Int32).toNatClampNeg) 0) ((4 : Int32).toNatClampNeg) 0) ((5 : Int32).toNatClampNeg) 0))), (l1, .inr (1, [.int 0, .ref a0, .int 0]))]) (w1 := [(l2, .inr (1, [.int 0, .ref a0, .int 0]))]) hP hD [1] [0, 2, 3, 4, 5] rfl rfl (by decide) (by decide) hk1 hFc hP1 hD1
  have hK := (hK.sub (tys' := [(cy_2, .int), (cy_7, .int)]) [0, 1] rfl).app hK1
  generalize H1 = H at hP hS ⊢
  have hP : va_P (dC, dI) vwCl [(m0, .inr (12, [.int 0, .ref l1, .ref l2, .int 0, .int 0, .int 0, .long s0])), (q_1, .inl (cy_2, 5, .inl (fun _ => 0))), (r_3, .inr (0, [.int 0, .int (-1), .int 0, .ref l1])), (q_6, .inl (cy_7, 11, .inl (upd (upd (upd (upd (upd (upd (fun _ => 0) ((0 : Int32).toNatClampNeg) 0) ((1 : Int32).toNatClampNeg) 0) ((2 : Int32).toNatClampNeg) 0) ((3 : Int32).toNatClampNeg) 0) ((4 : Int32).toNatClampNeg) 0) ((5 : Int32).toNatClampNeg) 0))), (l1, .inr (1, [.int 0, .ref a0, .int 0])), (l2, .inr (1, [.int 0, .ref a0, .int 0]))] H := hP
  have hD : va_D A [(m0, .inr (12, [.int 0, .ref l1, .ref l2, .int 0, .int 0, .int 0, .long s0])), (q_1, .inl (cy_2, 5, .inl (fun _ => 0))), (r_3, .inr (0, [.int 0, .int (-1), .int 0, .ref l1])), (q_6, .inl (cy_7, 11, .inl (upd (upd (upd (upd (upd (upd (fun _ => 0) ((0 : Int32).toNatClampNeg) 0) ((1 : Int32).toNatClampNeg) 0) ((2 : Int32).toNatClampNeg) 0) ((3 : Int32).toNatClampNeg) 0) ((4 : Int32).toNatClampNeg) 0) ((5 : Int32).toNatClampNeg) 0))), (l1, .inr (1, [.int 0, .ref a0, .int 0])), (l2, .inr (1, [.int 0, .ref a0, .int 0]))] := hD
  have hK : va_K (dC, dI) vwCl [(cy_2, .int), (cy_7, .int)] s := hK
  refine W.widen (k := 3) (n := 20) (Nat.le_of_ble_eq_true rfl) (Nat.le_of_ble_eq_true rfl) ?_
  obtain rfl : r_20 = 0 := hw
  refine va_iast hx hb hK hP hD hS 3 1 rfl rfl (by unfold vp_in; decide) dX10_manyNow_115 (fun H locs hP hD hS => ?_)
  have hP : va_P (dC, dI) vwCl [(m0, .inr (12, [.int 0, .ref l1, .ref l2, .int 0, .int 0, .int 0, .long s0])), (q_1, .inl (cy_2, 5, .inl (fun _ => 0))), (r_3, .inr (0, [.int 0, .int (-1), .int 0, .ref l1])), (q_6, .inl (cy_7, 11, .inl (upd (upd (upd (upd (upd (upd (upd (fun _ => 0) ((0 : Int32).toNatClampNeg) 0) ((1 : Int32).toNatClampNeg) 0) ((2 : Int32).toNatClampNeg) 0) ((3 : Int32).toNatClampNeg) 0) ((4 : Int32).toNatClampNeg) 0) ((5 : Int32).toNatClampNeg) 0) ((6 : Int32).toNatClampNeg) 0))), (l1, .inr (1, [.int 0, .ref a0, .int 0])), (l2, .inr (1, [.int 0, .ref a0, .int 0]))] H := hP
  have hD : va_D A [(m0, .inr (12, [.int 0, .ref l1, .ref l2, .int 0, .int 0, .int 0, .long s0])), (q_1, .inl (cy_2, 5, .inl (fun _ => 0))), (r_3, .inr (0, [.int 0, .int (-1), .int 0, .ref l1])), (q_6, .inl (cy_7, 11, .inl (upd (upd (upd (upd (upd (upd (upd (fun _ => 0) ((0 : Int32).toNatClampNeg) 0) ((1 : Int32).toNatClampNeg) 0) ((2 : Int32).toNatClampNeg) 0) ((3 : Int32).toNatClampNeg) 0) ((4 : Int32).toNatClampNeg) 0) ((5 : Int32).toNatClampNeg) 0) ((6 : Int32).toNatClampNeg) 0))), (l1, .inr (1, [.int 0, .ref a0, .int 0])), (l2, .inr (1, [.int 0, .ref a0, .int 0]))] := hD
  refine lv_dup hx hb dX10_manyNow_116 rfl ?_
  refine lv_bipush (v := 7) hx hb dX10_manyNow_117 (by decide) ?_
  refine lv_aload_n hx hb dX10_manyNow_119 rfl (lv_at hl 3 rfl) ?_
  refine va_get (D := (dC, dI)) (ci := 12) (v := .int 0) (C := RX10) (T := TX10) (N := 7) hx hb hts hiX10 hown hK hP 0 rfl rfl 3 (by decide) (hts (.fieldLink RX10 191 "HaltingaleModel" "given" "I") (by decide +kernel)) (fun _ h9 => h9) rfl dX10_manyNow_120 ?_
  refine va_iast hx hb hK hP hD hS 3 1 rfl rfl (by unfold vp_in; decide) dX10_manyNow_123 (fun H locs hP hD hS => ?_)
  have hP : va_P (dC, dI) vwCl [(m0, .inr (12, [.int 0, .ref l1, .ref l2, .int 0, .int 0, .int 0, .long s0])), (q_1, .inl (cy_2, 5, .inl (fun _ => 0))), (r_3, .inr (0, [.int 0, .int (-1), .int 0, .ref l1])), (q_6, .inl (cy_7, 11, .inl (upd (upd (upd (upd (upd (upd (upd (upd (fun _ => 0) ((0 : Int32).toNatClampNeg) 0) ((1 : Int32).toNatClampNeg) 0) ((2 : Int32).toNatClampNeg) 0) ((3 : Int32).toNatClampNeg) 0) ((4 : Int32).toNatClampNeg) 0) ((5 : Int32).toNatClampNeg) 0) ((6 : Int32).toNatClampNeg) 0) ((7 : Int32).toNatClampNeg) 0))), (l1, .inr (1, [.int 0, .ref a0, .int 0])), (l2, .inr (1, [.int 0, .ref a0, .int 0]))] H := hP
  have hD : va_D A [(m0, .inr (12, [.int 0, .ref l1, .ref l2, .int 0, .int 0, .int 0, .long s0])), (q_1, .inl (cy_2, 5, .inl (fun _ => 0))), (r_3, .inr (0, [.int 0, .int (-1), .int 0, .ref l1])), (q_6, .inl (cy_7, 11, .inl (upd (upd (upd (upd (upd (upd (upd (upd (fun _ => 0) ((0 : Int32).toNatClampNeg) 0) ((1 : Int32).toNatClampNeg) 0) ((2 : Int32).toNatClampNeg) 0) ((3 : Int32).toNatClampNeg) 0) ((4 : Int32).toNatClampNeg) 0) ((5 : Int32).toNatClampNeg) 0) ((6 : Int32).toNatClampNeg) 0) ((7 : Int32).toNatClampNeg) 0))), (l1, .inr (1, [.int 0, .ref a0, .int 0])), (l2, .inr (1, [.int 0, .ref a0, .int 0]))] := hD
  refine lv_dup hx hb dX10_manyNow_124 rfl ?_
  refine lv_bipush (v := 8) hx hb dX10_manyNow_125 (by decide) ?_
  refine lv_aload_n hx hb dX10_manyNow_127 rfl (lv_at hl 3 rfl) ?_
  refine va_get (D := (dC, dI)) (ci := 12) (v := .int 0) (C := RX10) (T := TX10) (N := 7) hx hb hts hiX10 hown hK hP 0 rfl rfl 4 (by decide) (hts (.fieldLink RX10 194 "HaltingaleModel" "taken" "I") (by decide +kernel)) (fun _ h9 => h9) rfl dX10_manyNow_128 ?_
  refine va_iast hx hb hK hP hD hS 3 1 rfl rfl (by unfold vp_in; decide) dX10_manyNow_131 (fun H locs hP hD hS => ?_)
  have hP : va_P (dC, dI) vwCl [(m0, .inr (12, [.int 0, .ref l1, .ref l2, .int 0, .int 0, .int 0, .long s0])), (q_1, .inl (cy_2, 5, .inl (fun _ => 0))), (r_3, .inr (0, [.int 0, .int (-1), .int 0, .ref l1])), (q_6, .inl (cy_7, 11, .inl (upd (upd (upd (upd (upd (upd (upd (upd (upd (fun _ => 0) ((0 : Int32).toNatClampNeg) 0) ((1 : Int32).toNatClampNeg) 0) ((2 : Int32).toNatClampNeg) 0) ((3 : Int32).toNatClampNeg) 0) ((4 : Int32).toNatClampNeg) 0) ((5 : Int32).toNatClampNeg) 0) ((6 : Int32).toNatClampNeg) 0) ((7 : Int32).toNatClampNeg) 0) ((8 : Int32).toNatClampNeg) 0))), (l1, .inr (1, [.int 0, .ref a0, .int 0])), (l2, .inr (1, [.int 0, .ref a0, .int 0]))] H := hP
  have hD : va_D A [(m0, .inr (12, [.int 0, .ref l1, .ref l2, .int 0, .int 0, .int 0, .long s0])), (q_1, .inl (cy_2, 5, .inl (fun _ => 0))), (r_3, .inr (0, [.int 0, .int (-1), .int 0, .ref l1])), (q_6, .inl (cy_7, 11, .inl (upd (upd (upd (upd (upd (upd (upd (upd (upd (fun _ => 0) ((0 : Int32).toNatClampNeg) 0) ((1 : Int32).toNatClampNeg) 0) ((2 : Int32).toNatClampNeg) 0) ((3 : Int32).toNatClampNeg) 0) ((4 : Int32).toNatClampNeg) 0) ((5 : Int32).toNatClampNeg) 0) ((6 : Int32).toNatClampNeg) 0) ((7 : Int32).toNatClampNeg) 0) ((8 : Int32).toNatClampNeg) 0))), (l1, .inr (1, [.int 0, .ref a0, .int 0])), (l2, .inr (1, [.int 0, .ref a0, .int 0]))] := hD
  refine lv_dup hx hb dX10_manyNow_132 rfl ?_
  refine lv_bipush (v := 9) hx hb dX10_manyNow_133 (by decide) ?_
  refine lv_aload_n hx hb dX10_manyNow_135 rfl (lv_at hl 3 rfl) ?_
  refine va_get (D := (dC, dI)) (ci := 12) (v := .int 0) (C := RX10) (T := TX10) (N := 7) hx hb hts hiX10 hown hK hP 0 rfl rfl 5 (by decide) (hts (.fieldLink RX10 67 "HaltingaleModel" "back" "I") (by decide +kernel)) (fun _ h9 => h9) rfl dX10_manyNow_136 ?_
  refine va_iast hx hb hK hP hD hS 3 1 rfl rfl (by unfold vp_in; decide) dX10_manyNow_139 (fun H locs hP hD hS => ?_)
  have hP : va_P (dC, dI) vwCl [(m0, .inr (12, [.int 0, .ref l1, .ref l2, .int 0, .int 0, .int 0, .long s0])), (q_1, .inl (cy_2, 5, .inl (fun _ => 0))), (r_3, .inr (0, [.int 0, .int (-1), .int 0, .ref l1])), (q_6, .inl (cy_7, 11, .inl (upd (upd (upd (upd (upd (upd (upd (upd (upd (upd (fun _ => 0) ((0 : Int32).toNatClampNeg) 0) ((1 : Int32).toNatClampNeg) 0) ((2 : Int32).toNatClampNeg) 0) ((3 : Int32).toNatClampNeg) 0) ((4 : Int32).toNatClampNeg) 0) ((5 : Int32).toNatClampNeg) 0) ((6 : Int32).toNatClampNeg) 0) ((7 : Int32).toNatClampNeg) 0) ((8 : Int32).toNatClampNeg) 0) ((9 : Int32).toNatClampNeg) 0))), (l1, .inr (1, [.int 0, .ref a0, .int 0])), (l2, .inr (1, [.int 0, .ref a0, .int 0]))] H := hP
  have hD : va_D A [(m0, .inr (12, [.int 0, .ref l1, .ref l2, .int 0, .int 0, .int 0, .long s0])), (q_1, .inl (cy_2, 5, .inl (fun _ => 0))), (r_3, .inr (0, [.int 0, .int (-1), .int 0, .ref l1])), (q_6, .inl (cy_7, 11, .inl (upd (upd (upd (upd (upd (upd (upd (upd (upd (upd (fun _ => 0) ((0 : Int32).toNatClampNeg) 0) ((1 : Int32).toNatClampNeg) 0) ((2 : Int32).toNatClampNeg) 0) ((3 : Int32).toNatClampNeg) 0) ((4 : Int32).toNatClampNeg) 0) ((5 : Int32).toNatClampNeg) 0) ((6 : Int32).toNatClampNeg) 0) ((7 : Int32).toNatClampNeg) 0) ((8 : Int32).toNatClampNeg) 0) ((9 : Int32).toNatClampNeg) 0))), (l1, .inr (1, [.int 0, .ref a0, .int 0])), (l2, .inr (1, [.int 0, .ref a0, .int 0]))] := hD
  refine lv_dup hx hb dX10_manyNow_140 rfl ?_
  refine lv_bipush (v := 10) hx hb dX10_manyNow_141 (by decide) ?_
  refine lv_iload_n hx hb dX10_manyNow_143 rfl (lv_at hl 1 rfl) ?_
  refine va_iast hx hb hK hP hD hS 3 1 rfl rfl (by unfold vp_in; decide) dX10_manyNow_144 (fun H locs hP hD hS => ?_)
  have hP : va_P (dC, dI) vwCl [(m0, .inr (12, [.int 0, .ref l1, .ref l2, .int 0, .int 0, .int 0, .long s0])), (q_1, .inl (cy_2, 5, .inl (fun _ => 0))), (r_3, .inr (0, [.int 0, .int (-1), .int 0, .ref l1])), (q_6, .inl (cy_7, 11, .inl (upd (upd (upd (upd (upd (upd (upd (upd (upd (upd (upd (fun _ => 0) ((0 : Int32).toNatClampNeg) 0) ((1 : Int32).toNatClampNeg) 0) ((2 : Int32).toNatClampNeg) 0) ((3 : Int32).toNatClampNeg) 0) ((4 : Int32).toNatClampNeg) 0) ((5 : Int32).toNatClampNeg) 0) ((6 : Int32).toNatClampNeg) 0) ((7 : Int32).toNatClampNeg) 0) ((8 : Int32).toNatClampNeg) 0) ((9 : Int32).toNatClampNeg) 0) ((10 : Int32).toNatClampNeg) 0))), (l1, .inr (1, [.int 0, .ref a0, .int 0])), (l2, .inr (1, [.int 0, .ref a0, .int 0]))] H := hP
  have hD : va_D A [(m0, .inr (12, [.int 0, .ref l1, .ref l2, .int 0, .int 0, .int 0, .long s0])), (q_1, .inl (cy_2, 5, .inl (fun _ => 0))), (r_3, .inr (0, [.int 0, .int (-1), .int 0, .ref l1])), (q_6, .inl (cy_7, 11, .inl (upd (upd (upd (upd (upd (upd (upd (upd (upd (upd (upd (fun _ => 0) ((0 : Int32).toNatClampNeg) 0) ((1 : Int32).toNatClampNeg) 0) ((2 : Int32).toNatClampNeg) 0) ((3 : Int32).toNatClampNeg) 0) ((4 : Int32).toNatClampNeg) 0) ((5 : Int32).toNatClampNeg) 0) ((6 : Int32).toNatClampNeg) 0) ((7 : Int32).toNatClampNeg) 0) ((8 : Int32).toNatClampNeg) 0) ((9 : Int32).toNatClampNeg) 0) ((10 : Int32).toNatClampNeg) 0))), (l1, .inr (1, [.int 0, .ref a0, .int 0])), (l2, .inr (1, [.int 0, .ref a0, .int 0]))] := hD
  refine lv_astore (lv' := [(4, .ref q_6), (3, .int 0), (2, .ref q_1), (0, .ref m0), (1, .int 1)]) hx hb dX10_manyNow_145 hl (by decide) rfl (fun ls hl => ?_)
  refine lv_aload hx hb dX10_manyNow_147 (lv_at hl 0 rfl) ?_
  refine lv_iload_n hx hb dX10_manyNow_149 rfl (lv_at hl 4 rfl) ?_
  refine va_iald hx hb hK hP 3 1 rfl rfl (by unfold vp_in; decide) dX10_manyNow_150 ?_
  refine lv_topi (fun x_26 ex_26 => ?_)
  obtain rfl : x_26 = 0 := ex_26.trans (by decide +kernel)
  have hP9 := hP.sub (ws' := [(m0, .inr (12, [.int 0, .ref l1, .ref l2, .int 0, .int 0, .int 0, .long s0])), (l1, .inr (1, [.int 0, .ref a0, .int 0])), (l2, .inr (1, [.int 0, .ref a0, .int 0]))]) [0, 4, 5] rfl
  have hD9 := hD.sub (ws' := [(m0, .inr (12, [.int 0, .ref l1, .ref l2, .int 0, .int 0, .int 0, .long s0])), (l1, .inr (1, [.int 0, .ref a0, .int 0])), (l2, .inr (1, [.int 0, .ref a0, .int 0]))]) [0, 4, 5] (by decide) rfl
  have hK9 := hK.sub (tys' := []) [] rfl
  refine W.widen (k := 3) (n := 20) (Nat.le_of_ble_eq_true rfl) (Nat.le_of_ble_eq_true rfl) ?_
  exact W.iret (v := 0) hx hb hr (fun t ht hW => ⟨⟨0, (), rfl, rfl, ⟨by rw [ht]; exact hP9, va_K.moved hW.alike hK9, hD9⟩⟩, hS.F ht⟩) hS.2.2 dX10_manyNow_151

def zs_c_X10_manyNow_2 : List Cond := .code yX10_manyNow cX10_manyNow 6 (some .int) :: (([.arrayClass .int, .fieldLink RX10 10 "HaltingaleModel" "machines" "Ljava/util/ArrayList;", .code yJx4a65c_iterator_32c93 cJx4a65c_iterator_32c93 1 (some (.object "java/util/Iterator")), .classLink RJx4a65c 267 RJx35411, .instantiable RJx35411 4, .initialized RJx35411, .code yJx35411_init_45d68 cJx35411_init_45d68 2 none, .fieldLink RJx35411 1 "java/util/ArrayList$Itr" "this$0" "Ljava/util/ArrayList;", .methodLink RJx35411 7 objectInit, .instanceMethod objectInit, .code objectInit ⟨#[0xb1]⟩ 1 none, .fieldLink RJx35411 13 "java/util/ArrayList$Itr" "lastRet" "I", .sameField "java/util/ArrayList" "java/util/AbstractList" "modCount" "I", .fieldLink RJx35411 17 "java/util/ArrayList" "modCount" "I", .fieldLink RJx35411 22 "java/util/ArrayList$Itr" "expectedModCount" "I", .methodLink RJx4a65c 269 yJx35411_init_45d68, .instanceMethod yJx35411_init_45d68, .methodLink RX10 158 yJx4a65c_iterator_32c93, .instanceMethod yJx4a65c_iterator_32c93, .initialized RJx4a65c, .selects RJx4a65c yJx4a65c_iterator_32c93 yJx4a65c_iterator_32c93, .code yJx35411_hasNext_aae02 cJx35411_hasNext_aae02 1 (some .boolean), .fieldLink RJx35411 25 "java/util/ArrayList$Itr" "cursor" "I", .methodLink RX10 162 ⟨"java/util/Iterator", "hasNext", "()Z"⟩, .instanceMethod yJx35411_hasNext_aae02, .selects RJx35411 ⟨"java/util/Iterator", "hasNext", "()Z"⟩ yJx35411_hasNext_aae02, .code yJx4a65c_size_8abf5 cJx4a65c_size_8abf5 1 (some .int), .fieldLink RJx4a65c 48 "java/util/ArrayList" "size" "I", .methodLink RX10 23 yJx4a65c_size_8abf5, .instanceMethod yJx4a65c_size_8abf5, .selects RJx4a65c yJx4a65c_size_8abf5 yJx4a65c_size_8abf5, .fieldLink RX10 16 "HaltingaleModel" "tags" "Ljava/util/ArrayList;", .fieldLink RX10 191 "HaltingaleModel" "given" "I", .fieldLink RX10 194 "HaltingaleModel" "taken" "I", .fieldLink RX10 67 "HaltingaleModel" "back" "I"] : List Cond) ++ wsX100 ++ wsJx354110 ++ wsJx4a65c0)
set_option maxHeartbeats 4000000 in
set_option maxRecDepth 100000 in
/-- manyNow of 2 -/
theorem c_X10_manyNow_2 (l : Launch) (hnt : l.stackTraces = false) (dC : Nat → ClassId) (dI : Nat → Nat → Nat) (a0 : Nat) (m0 : Nat) (l1 : Nat) (l2 : Nat) (s0 : Int64) (sz : Nat)  : Met l yX10_manyNow zs_c_X10_manyNow_2 ({ frames := 3, cells := 3, slots := 20, locals := 53 }) (va_Pc [.ref m0, .int 2] (fun U => U.heap.size = sz ∧ va_P (dC, dI) vwCl [(m0, .inr (12, [.int 0, .ref l1, .ref l2, .int 0, .int 0, .int 0, .long s0])), (l1, .inr (1, [.int 0, .ref a0, .int 0])), (l2, .inr (1, [.int 0, .ref a0, .int 0]))] U.heap ∧ va_K (dC, dI) vwCl [] U ∧ va_D (fun _ => True) [(m0, .inr (12, [.int 0, .ref l1, .ref l2, .int 0, .int 0, .int 0, .long s0])), (l1, .inr (1, [.int 0, .ref a0, .int 0])), (l2, .inr (1, [.int 0, .ref a0, .int 0]))] ∧ zB a0 (va_A [(m0, .inr (12, [.int 0, .ref l1, .ref l2, .int 0, .int 0, .int 0, .long s0])), (l1, .inr (1, [.int 0, .ref a0, .int 0])), (l2, .inr (1, [.int 0, .ref a0, .int 0]))] sz) U U.heap)) (va_Qi (fun (r : Int32) (_ : Unit) => r = 0) (fun _ t => va_P (dC, dI) vwCl [(m0, .inr (12, [.int 0, .ref l1, .ref l2, .int 0, .int 0, .int 0, .long s0])), (l1, .inr (1, [.int 0, .ref a0, .int 0])), (l2, .inr (1, [.int 0, .ref a0, .int 0]))] t.heap ∧ va_K (dC, dI) vwCl [] t ∧ va_D (va_A [(m0, .inr (12, [.int 0, .ref l1, .ref l2, .int 0, .int 0, .int 0, .long s0])), (l1, .inr (1, [.int 0, .ref a0, .int 0])), (l2, .inr (1, [.int 0, .ref a0, .int 0]))] sz) [(m0, .inr (12, [.int 0, .ref l1, .ref l2, .int 0, .int 0, .int 0, .long s0])), (l1, .inr (1, [.int 0, .ref a0, .int 0])), (l2, .inr (1, [.int 0, .ref a0, .int 0]))]) (va_A [(m0, .inr (12, [.int 0, .ref l1, .ref l2, .int 0, .int 0, .int 0, .long s0])), (l1, .inr (1, [.int 0, .ref a0, .int 0])), (l2, .inr (1, [.int 0, .ref a0, .int 0]))] sz)) 3 20 (va_A [(m0, .inr (12, [.int 0, .ref l1, .ref l2, .int 0, .int 0, .int 0, .long s0])), (l1, .inr (1, [.int 0, .ref a0, .int 0])), (l2, .inr (1, [.int 0, .ref a0, .int 0]))] sz) := by
  refine Met.ofW (cc := cX10_manyNow) (maxL := 6) (ret := (some .int)) (by decide) rfl ?_
  intro p e s m args below meth c s₁ B hml hv
  obtain ⟨rfl, hsz, hP, hK, hD0, hZ⟩ := hv
  have hx := B.exec
  have hb := B.bytes
  have hr := B.returns
  have hts := atoms_spec (ws := zs_c_X10_manyNow_2) B.pre
  have hown : s.vm.findClass RX10 = some m.cls := findClass_of_methodNamed B.named
  have hlocks := B.notSynchronized
  have hiX10 : ∀ w ∈ wsX100, w ∈ zs_c_X10_manyNow_2 := by decide +kernel
  subst hsz
  have hD := hD0.self (sz := s.heap.size)
  generalize hAe : va_A [(m0, .inr (12, [.int 0, .ref l1, .ref l2, .int 0, .int 0, .int 0, .long s0])), (l1, .inr (1, [.int 0, .ref a0, .int 0])), (l2, .inr (1, [.int 0, .ref a0, .int 0]))] s.heap.size = A at hD hZ ⊢
  have hA : ∀ q : Nat, s.heap.size ≤ q → A q := fun q h => by rw [← hAe]; exact Or.inr h
  have hS : va_S A s.heap s.heap [] := va_S.rf
  have hl := lv_entry ([.ref m0, .int 2]) (n := 6) (Nat.le_of_ble_eq_true rfl)
  rw [lg_entry_eq]
  generalize (lg_sl ([.ref m0, .int 2]) ++ List.replicate (6 - (lg_sl ([.ref m0, .int 2])).length) Slot.unset).toArray = ls at hl ⊢
  have hl : lv_has ls 6 [(0, .ref m0), (1, .int 2)] := hl
  refine lv_iconst (v := 5) hx hb dX10_manyNow_0 (by decide) ?_
  refine va_newa (atype := .int) (ty := .int) (N' := 5) (a0 := (5, .inl (fun _ => 0))) hx hb (hts (.arrayClass .int) (by decide +kernel)) rfl hK hP hD hS hA (fun _ => rfl) (by decide) (by decide) (Nat.le_of_ble_eq_true rfl) (Nat.le_of_ble_eq_true rfl) (Nat.le_of_ble_eq_true rfl) dX10_manyNow_1 (fun q_1 cy_2 H hK hP hD hS => ?_)
  have hK : va_K (dC, dI) vwCl [(cy_2, .int)] s := hK
  have hP : va_P (dC, dI) vwCl [(m0, .inr (12, [.int 0, .ref l1, .ref l2, .int 0, .int 0, .int 0, .long s0])), (l1, .inr (1, [.int 0, .ref a0, .int 0])), (l2, .inr (1, [.int 0, .ref a0, .int 0])), (q_1, .inl (cy_2, 5, .inl (fun _ => 0)))] H := hP
  have hD : va_D A [(m0, .inr (12, [.int 0, .ref l1, .ref l2, .int 0, .int 0, .int 0, .long s0])), (l1, .inr (1, [.int 0, .ref a0, .int 0])), (l2, .inr (1, [.int 0, .ref a0, .int 0])), (q_1, .inl (cy_2, 5, .inl (fun _ => 0)))] := hD
  refine W.widen (k := 1) (n := 5) (Nat.le_of_ble_eq_true rfl) (Nat.le_of_ble_eq_true rfl) ?_
  refine lv_astore_n (lv' := [(2, .ref q_1), (0, .ref m0), (1, .int 2)]) hx hb dX10_manyNow_3 rfl hl (by decide) rfl (fun ls hl => ?_)
  refine lv_iconst (v := 0) hx hb dX10_manyNow_4 (by decide) ?_
  refine lv_istore_n (lv' := [(3, .int 0), (2, .ref q_1), (0, .ref m0), (1, .int 2)]) hx hb dX10_manyNow_5 rfl hl (by decide) rfl (fun ls hl => ?_)
  refine lv_aload_n hx hb dX10_manyNow_6 rfl (lv_at hl 2 rfl) ?_
  refine va_get (D := (dC, dI)) (ci := 12) (v := .ref l1) (C := RX10) (T := TX10) (N := 7) hx hb hts hiX10 hown hK hP 0 rfl rfl 1 (by decide) (hts (.fieldLink RX10 10 "HaltingaleModel" "machines" "Ljava/util/ArrayList;") (by decide +kernel)) (fun _ h9 => h9) rfl dX10_manyNow_7 ?_
  have hPc := hP.sub (ws' := [(l1, .inr (1, [.int 0, .ref a0, .int 0]))]) [1] rfl
  have hDc := hD.sub (ws' := [(l1, .inr (1, [.int 0, .ref a0, .int 0]))]) [1] (by decide) rfl
  have hKc := hK.sub (tys' := []) [] rfl
  have hFc := va_free (wc := [(l1, .inr (1, [.int 0, .ref a0, .int 0]))]) hD hS hA [1] rfl
  have hZc := ((hZ.kept hS.2.1).narrow hFc)
  refine va_callr (va_runV (As := []) (rest := []) ⟨hx, hb, hml, hown, hts⟩ (c_Jx4a65c_iterator_32c93 l hnt dC dI a0 l1 H.size ) (cwV 0 hts (goodIn_of _ (by decide +kernel)) rfl rfl rfl (by decide +kernel) ⟨Nat.le_of_ble_eq_true rfl, Nat.le_of_ble_eq_true rfl⟩) ⟨fun a U g mk q => by obtain ⟨q0, q1, qP, qK, qD, qZ⟩ := q; exact ⟨q0, q1, qP, va_K.moved (u := U) (U := U.calling g mk a) (Vm.Alike.refl U.vm) qK, qD, qZ.call⟩, va_recv hKc hPc (ci := 1) (q0 := 0) rfl rfl, fun U hU hW => ⟨rfl, by rw [hU], by rw [hU]; exact hPc, va_K.moved hW.alike hKc, hDc.weaken (fun _ _ _ _ => trivial), by rw [hU]; exact hZc.warm hW⟩⟩ rfl rfl hl.1 rfl (lv_room (Nat.le_of_ble_eq_true rfl)) dX10_manyNow_10 ⟨Nat.le_of_ble_eq_true rfl, Nat.le_of_ble_eq_true rfl⟩) hS (fun q _ h => hFc q h) hFc (fun u r_3 t H1 locs ht hvm hw hB hz1 hk1 hS => ?_)
  obtain ⟨hP1, hK1, hD1⟩ := hB
  rw [ht] at hP1
  have hK1 := va_K.moved hvm.symm hK1
  obtain ⟨hP, hD⟩ := va_join (wr := [(m0, .inr (12, [.int 0, .ref l1, .ref l2, .int 0, .int 0, .int 0, .long s0])), (l2, .inr (1, [.int 0, .ref a0, .int 0])), (q_1, .inl (cy_2, 5, .inl (fun _ => 0)))]) (w1 := [(r_3, .inr (0, [.int 0, .int (-1), .int 0, .ref l1])), (l1, .inr (1, [.int 0, .ref a0, .int 0]))]) hP hD [1] [0, 2, 3] rfl rfl (by decide) (by decide) hk1 hFc hP1 hD1
  have hK := (hK.sub (tys' := [(cy_2, .int)]) [0] rfl).app hK1
  generalize H1 = H at hP hS ⊢
  have hP : va_P (dC, dI) vwCl [(m0, .inr (12, [.int 0, .ref l1, .ref l2, .int 0, .int 0, .int 0, .long s0])), (l2, .inr (1, [.int 0, .ref a0, .int 0])), (q_1, .inl (cy_2, 5, .inl (fun _ => 0))), (r_3, .inr (0, [.int 0, .int (-1), .int 0, .ref l1])), (l1, .inr (1, [.int 0, .ref a0, .int 0]))] H := hP
  have hD : va_D A [(m0, .inr (12, [.int 0, .ref l1, .ref l2, .int 0, .int 0, .int 0, .long s0])), (l2, .inr (1, [.int 0, .ref a0, .int 0])), (q_1, .inl (cy_2, 5, .inl (fun _ => 0))), (r_3, .inr (0, [.int 0, .int (-1), .int 0, .ref l1])), (l1, .inr (1, [.int 0, .ref a0, .int 0]))] := hD
  have hK : va_K (dC, dI) vwCl [(cy_2, .int)] s := hK
  refine W.widen (k := 2) (n := 9) (Nat.le_of_ble_eq_true rfl) (Nat.le_of_ble_eq_true rfl) ?_
  refine lv_astore (lv' := [(4, .ref r_3), (3, .int 0), (2, .ref q_1), (0, .ref m0), (1, .int 2)]) hx hb dX10_manyNow_13 hl (by decide) rfl (fun ls hl => ?_)
  refine lv_aload hx hb dX10_manyNow_15 (lv_at hl 0 rfl) ?_
  have hPc := hP.sub (ws' := [(r_3, .inr (0, [.int 0, .int (-1), .int 0, .ref l1])), (l1, .inr (1, [.int 0, .ref a0, .int 0]))]) [3, 4] rfl
  have hDc := hD.sub (ws' := [(r_3, .inr (0, [.int 0, .int (-1), .int 0, .ref l1])), (l1, .inr (1, [.int 0, .ref a0, .int 0]))]) [3, 4] (by decide) rfl
  have hKc := hK.sub (tys' := []) [] rfl
  have hFc := va_free (wc := [(r_3, .inr (0, [.int 0, .int (-1), .int 0, .ref l1])), (l1, .inr (1, [.int 0, .ref a0, .int 0]))]) hD hS hA [3, 4] rfl
  have hZc := ((hZ.kept hS.2.1).narrow hFc)
  refine va_callFi (va_runF (As := []) (rest := []) (zz_at hK 0 rfl) ⟨hx, hb, hml, hown, hts⟩ (c_Jx35411_hasNext_aae02 l hnt dC dI a0 r_3 l1 H.size ) (va_cwF 0 hts (goodIn_of _ (by decide +kernel)) rfl rfl rfl hZ.fwN (by decide +kernel) ⟨Nat.le_of_ble_eq_true rfl, Nat.le_of_ble_eq_true rfl⟩) ⟨fun a U g mk q => by obtain ⟨q0, q1, qP, qK, qD, qZ⟩ := q; exact ⟨q0, q1, qP, va_K.moved (u := U) (U := U.calling g mk a) (Vm.Alike.refl U.vm) qK, qD, qZ.call⟩, va_recv hKc hPc (ci := 0) (q0 := 0) rfl rfl, fun U hU hW => ⟨rfl, by rw [hU], by rw [hU]; exact hPc, va_K.moved hW.alike hKc, hDc.weaken (fun _ _ _ _ => trivial), by rw [hU]; exact hZc.warm hW⟩⟩ rfl rfl hl.1 rfl (lv_room (Nat.le_of_ble_eq_true rfl)) dX10_manyNow_17 ⟨Nat.le_of_ble_eq_true rfl, Nat.le_of_ble_eq_true rfl⟩) hS (fun q _ h => hFc q h) hFc (fun r_4 u t H1 locs ht hvm hw hB hz1 hk1 hS => ?_)
  obtain ⟨hP1, hK1, hD1⟩ := hB
  rw [ht] at hP1
  have hK1 := va_K.moved hvm.symm hK1
  obtain ⟨hP, hD⟩ := va_join (wr := [(m0, .inr (12, [.int 0, .ref l1, .ref l2, .int 0, .int 0, .int 0, .long s0])), (l2, .inr (1, [.int 0, .ref a0, .int 0])), (q_1, .inl (cy_2, 5, .inl (fun _ => 0)))]) (w1 := [(r_3, .inr (0, [.int 0, .int (-1), .int 0, .ref l1])), (l1, .inr (1, [.int 0, .ref a0, .int 0]))]) hP hD [3, 4] [0, 1, 2] rfl rfl (by decide) (by decide) hk1 hFc hP1 hD1
  have hK := (hK.sub (tys' := [(cy_2, .int)]) [0] rfl).app hK1
  generalize H1 = H at hP hS ⊢
  have hP : va_P (dC, dI) vwCl [(m0, .inr (12, [.int 0, .ref l1, .ref l2, .int 0, .int 0, .int 0, .long s0])), (l2, .inr (1, [.int 0, .ref a0, .int 0])), (q_1, .inl (cy_2, 5, .inl (fun _ => 0))), (r_3, .inr (0, [.int 0, .int (-1), .int 0, .ref l1])), (l1, .inr (1, [.int 0, .ref a0, .int 0]))] H := hP
  have hD : va_D A [(m0, .inr (12, [.int 0, .ref l1, .ref l2, .int 0, .int 0, .int 0, .long s0])), (l2, .inr (1, [.int 0, .ref a0, .int 0])), (q_1, .inl (cy_2, 5, .inl (fun _ => 0))), (r_3, .inr (0, [.int 0, .int (-1), .int 0, .ref l1])), (l1, .inr (1, [.int 0, .ref a0, .int 0]))] := hD
  have hK : va_K (dC, dI) vwCl [(cy_2, .int)] s := hK
  refine W.widen (k := 2) (n := 9) (Nat.le_of_ble_eq_true rfl) (Nat.le_of_ble_eq_true rfl) ?_
  obtain rfl : r_4 = 0 := hw
  refine lv_if_eq (tgt := 61) hx hb dX10_manyNow_22 (by decide) (fun c_5 => ?_) (fun c_5 => ?_)
  rotate_left
  · (first | exact absurd c_5 (by decide) | exact absurd (by decide) c_5)
  refine lv_bipush (v := 11) hx hb dX10_manyNow_61 (by decide) ?_
  refine va_newa (atype := .int) (ty := .int) (N' := 11) (a0 := (11, .inl (fun _ => 0))) hx hb (hts (.arrayClass .int) (by decide +kernel)) rfl hK hP hD hS hA (fun _ => rfl) (by decide) (by decide) (Nat.le_of_ble_eq_true rfl) (Nat.le_of_ble_eq_true rfl) (Nat.le_of_ble_eq_true rfl) dX10_manyNow_63 (fun q_6 cy_7 H hK hP hD hS => ?_)
  have hK : va_K (dC, dI) vwCl [(cy_2, .int), (cy_7, .int)] s := hK
  have hP : va_P (dC, dI) vwCl [(m0, .inr (12, [.int 0, .ref l1, .ref l2, .int 0, .int 0, .int 0, .long s0])), (l2, .inr (1, [.int 0, .ref a0, .int 0])), (q_1, .inl (cy_2, 5, .inl (fun _ => 0))), (r_3, .inr (0, [.int 0, .int (-1), .int 0, .ref l1])), (l1, .inr (1, [.int 0, .ref a0, .int 0])), (q_6, .inl (cy_7, 11, .inl (fun _ => 0)))] H := hP
  have hD : va_D A [(m0, .inr (12, [.int 0, .ref l1, .ref l2, .int 0, .int 0, .int 0, .long s0])), (l2, .inr (1, [.int 0, .ref a0, .int 0])), (q_1, .inl (cy_2, 5, .inl (fun _ => 0))), (r_3, .inr (0, [.int 0, .int (-1), .int 0, .ref l1])), (l1, .inr (1, [.int 0, .ref a0, .int 0])), (q_6, .inl (cy_7, 11, .inl (fun _ => 0)))] := hD
  refine W.widen (k := 3) (n := 20) (Nat.le_of_ble_eq_true rfl) (Nat.le_of_ble_eq_true rfl) ?_
  refine lv_dup hx hb dX10_manyNow_65 rfl ?_
  refine lv_iconst (v := 0) hx hb dX10_manyNow_66 (by decide) ?_
  refine lv_aload_n hx hb dX10_manyNow_67 rfl (lv_at hl 3 rfl) ?_
  refine va_get (D := (dC, dI)) (ci := 12) (v := .ref l1) (C := RX10) (T := TX10) (N := 7) hx hb hts hiX10 hown hK hP 0 rfl rfl 1 (by decide) (hts (.fieldLink RX10 10 "HaltingaleModel" "machines" "Ljava/util/ArrayList;") (by decide +kernel)) (fun _ h9 => h9) rfl dX10_manyNow_68 ?_
  have hPc := hP.sub (ws' := [(l1, .inr (1, [.int 0, .ref a0, .int 0]))]) [4] rfl
  have hDc := hD.sub (ws' := [(l1, .inr (1, [.int 0, .ref a0, .int 0]))]) [4] (by decide) rfl
  have hKc := hK.sub (tys' := []) [] rfl
  have hFc := va_free (wc := [(l1, .inr (1, [.int 0, .ref a0, .int 0]))]) hD hS hA [4] rfl
  have hZc := ((hZ.kept hS.2.1).narrow hFc)
  refine va_calli (va_runV (As := []) (rest := [.int 0, .ref q_6, .ref q_6]) ⟨hx, hb, hml, hown, hts⟩ (c_Jx4a65c_size_8abf5 l hnt dC dI a0 l1 0 a0 0 H.size ) (cwV 0 hts (goodIn_of _ (by decide +kernel)) rfl rfl rfl (by decide +kernel) ⟨Nat.le_of_ble_eq_true rfl, Nat.le_of_ble_eq_true rfl⟩) ⟨fun a U g mk q => by obtain ⟨q0, q1, qP, qK, qD, qZ⟩ := q; exact ⟨q0, q1, qP, va_K.moved (u := U) (U := U.calling g mk a) (Vm.Alike.refl U.vm) qK, qD, qZ.call⟩, va_recv hKc hPc (ci := 1) (q0 := 0) rfl rfl, fun U hU hW => ⟨rfl, by rw [hU], by rw [hU]; exact hPc, va_K.moved hW.alike hKc, hDc.weaken (fun _ _ _ _ => trivial), by rw [hU]; exact hZc.warm hW⟩⟩ rfl rfl hl.1 rfl (lv_room (Nat.le_of_ble_eq_true rfl)) dX10_manyNow_71 ⟨Nat.le_of_ble_eq_true rfl, Nat.le_of_ble_eq_true rfl⟩) hS (fun q _ h => hFc q h) hFc (fun r_8 u t H1 locs ht hvm hw hB hz1 hk1 hS => ?_)
  obtain ⟨hP1, hK1, hD1⟩ := hB
  rw [ht] at hP1
  have hK1 := va_K.moved hvm.symm hK1
  obtain ⟨hP, hD⟩ := va_join (wr := [(m0, .inr (12, [.int 0, .ref l1, .ref l2, .int 0, .int 0, .int 0, .long s0])), (l2, .inr (1, [.int 0, .ref a0, .int 0])), (q_1, .inl (cy_2, 5, .inl (fun _ => 0))), (r_3, .inr (0, [.int 0, .int (-1), .int 0, .ref l1])), (q_6, .inl (cy_7, 11, .inl (fun _ => 0)))]) (w1 := [(l1, .inr (1, [.int 0, .ref a0, .int 0]))]) hP hD [4] [0, 1, 2, 3, 5] rfl rfl (by decide) (by decide) hk1 hFc hP1 hD1
  have hK := (hK.sub (tys' := [(cy_2, .int), (cy_7, .int)]) [0, 1] rfl).app hK1
  generalize H1 = H at hP hS ⊢
  have hP : va_P (dC, dI) vwCl [(m0, .inr (12, [.int 0, .ref l1, .ref l2, .int 0, .int 0, .int 0, .long s0])), (l2, .inr (1, [.int 0, .ref a0, .int 0])), (q_1, .inl (cy_2, 5, .inl (fun _ => 0))), (r_3, .inr (0, [.int 0, .int (-1), .int 0, .ref l1])), (q_6, .inl (cy_7, 11, .inl (fun _ => 0))), (l1, .inr (1, [.int 0, .ref a0, .int 0]))] H := hP
  have hD : va_D A [(m0, .inr (12, [.int 0, .ref l1, .ref l2, .int 0, .int 0, .int 0, .long s0])), (l2, .inr (1, [.int 0, .ref a0, .int 0])), (q_1, .inl (cy_2, 5, .inl (fun _ => 0))), (r_3, .inr (0, [.int 0, .int (-1), .int 0, .ref l1])), (q_6, .inl (cy_7, 11, .inl (fun _ => 0))), (l1, .inr (1, [.int 0, .ref a0, .int 0]))] := hD
  have hK : va_K (dC, dI) vwCl [(cy_2, .int), (cy_7, .int)] s := hK
  refine W.widen (k := 3) (n := 20) (Nat.le_of_ble_eq_true rfl) (Nat.le_of_ble_eq_true rfl) ?_
  obtain rfl : r_8 = 0 := hw
  refine va_iast hx hb hK hP hD hS 4 1 rfl rfl (by unfold vp_in; decide) dX10_manyNow_74 (fun H locs hP hD hS => ?_)
  have hP : va_P (dC, dI) vwCl [(m0, .inr (12, [.int 0, .ref l1, .ref l2, .int 0, .int 0, .int 0, .long s0])), (l2, .inr (1, [.int 0, .ref a0, .int 0])), (q_1, .inl (cy_2, 5, .inl (fun _ => 0))), (r_3, .inr (0, [.int 0, .int (-1), .int 0, .ref l1])), (q_6, .inl (cy_7, 11, .inl (upd (fun _ => 0) ((0 : Int32).toNatClampNeg) 0))), (l1, .inr (1, [.int 0, .ref a0, .int 0]))] H := hP
  have hD : va_D A [(m0, .inr (12, [.int 0, .ref l1, .ref l2, .int 0, .int 0, .int 0, .long s0])), (l2, .inr (1, [.int 0, .ref a0, .int 0])), (q_1, .inl (cy_2, 5, .inl (fun _ => 0))), (r_3, .inr (0, [.int 0, .int (-1), .int 0, .ref l1])), (q_6, .inl (cy_7, 11, .inl (upd (fun _ => 0) ((0 : Int32).toNatClampNeg) 0))), (l1, .inr (1, [.int 0, .ref a0, .int 0]))] := hD
  refine lv_dup hx hb dX10_manyNow_75 rfl ?_
  refine lv_iconst (v := 1) hx hb dX10_manyNow_76 (by decide) ?_
  refine lv_aload_n hx hb dX10_manyNow_77 rfl (lv_at hl 2 rfl) ?_
  refine lv_iconst (v := 0) hx hb dX10_manyNow_78 (by decide) ?_
  refine va_iald hx hb hK hP 2 0 rfl rfl (by unfold vp_in; decide) dX10_manyNow_79 ?_
  refine lv_topi (fun x_10 ex_10 => ?_)
  obtain rfl : x_10 = 0 := ex_10.trans (by decide +kernel)
  refine va_iast hx hb hK hP hD hS 4 1 rfl rfl (by unfold vp_in; decide) dX10_manyNow_80 (fun H locs hP hD hS => ?_)
  have hP : va_P (dC, dI) vwCl [(m0, .inr (12, [.int 0, .ref l1, .ref l2, .int 0, .int 0, .int 0, .long s0])), (l2, .inr (1, [.int 0, .ref a0, .int 0])), (q_1, .inl (cy_2, 5, .inl (fun _ => 0))), (r_3, .inr (0, [.int 0, .int (-1), .int 0, .ref l1])), (q_6, .inl (cy_7, 11, .inl (upd (upd (fun _ => 0) ((0 : Int32).toNatClampNeg) 0) ((1 : Int32).toNatClampNeg) 0))), (l1, .inr (1, [.int 0, .ref a0, .int 0]))] H := hP
  have hD : va_D A [(m0, .inr (12, [.int 0, .ref l1, .ref l2, .int 0, .int 0, .int 0, .long s0])), (l2, .inr (1, [.int 0, .ref a0, .int 0])), (q_1, .inl (cy_2, 5, .inl (fun _ => 0))), (r_3, .inr (0, [.int 0, .int (-1), .int 0, .ref l1])), (q_6, .inl (cy_7, 11, .inl (upd (upd (fun _ => 0) ((0 : Int32).toNatClampNeg) 0) ((1 : Int32).toNatClampNeg) 0))), (l1, .inr (1, [.int 0, .ref a0, .int 0]))] := hD
  refine lv_dup hx hb dX10_manyNow_81 rfl ?_
  refine lv_iconst (v := 2) hx hb dX10_manyNow_82 (by decide) ?_
  refine lv_aload_n hx hb dX10_manyNow_83 rfl (lv_at hl 2 rfl) ?_
  refine lv_iconst (v := 1) hx hb dX10_manyNow_84 (by decide) ?_
  refine va_iald hx hb hK hP 2 0 rfl rfl (by unfold vp_in; decide) dX10_manyNow_85 ?_
  refine lv_topi (fun x_12 ex_12 => ?_)
  obtain rfl : x_12 = 0 := ex_12.trans (by decide +kernel)
  refine va_iast hx hb hK hP hD hS 4 1 rfl rfl (by unfold vp_in; decide) dX10_manyNow_86 (fun H locs hP hD hS => ?_)
  have hP : va_P (dC, dI) vwCl [(m0, .inr (12, [.int 0, .ref l1, .ref l2, .int 0, .int 0, .int 0, .long s0])), (l2, .inr (1, [.int 0, .ref a0, .int 0])), (q_1, .inl (cy_2, 5, .inl (fun _ => 0))), (r_3, .inr (0, [.int 0, .int (-1), .int 0, .ref l1])), (q_6, .inl (cy_7, 11, .inl (upd (upd (upd (fun _ => 0) ((0 : Int32).toNatClampNeg) 0) ((1 : Int32).toNatClampNeg) 0) ((2 : Int32).toNatClampNeg) 0))), (l1, .inr (1, [.int 0, .ref a0, .int 0]))] H := hP
  have hD : va_D A [(m0, .inr (12, [.int 0, .ref l1, .ref l2, .int 0, .int 0, .int 0, .long s0])), (l2, .inr (1, [.int 0, .ref a0, .int 0])), (q_1, .inl (cy_2, 5, .inl (fun _ => 0))), (r_3, .inr (0, [.int 0, .int (-1), .int 0, .ref l1])), (q_6, .inl (cy_7, 11, .inl (upd (upd (upd (fun _ => 0) ((0 : Int32).toNatClampNeg) 0) ((1 : Int32).toNatClampNeg) 0) ((2 : Int32).toNatClampNeg) 0))), (l1, .inr (1, [.int 0, .ref a0, .int 0]))] := hD
  refine lv_dup hx hb dX10_manyNow_87 rfl ?_
  refine lv_iconst (v := 3) hx hb dX10_manyNow_88 (by decide) ?_
  refine lv_aload_n hx hb dX10_manyNow_89 rfl (lv_at hl 2 rfl) ?_
  refine lv_iconst (v := 2) hx hb dX10_manyNow_90 (by decide) ?_
  refine va_iald hx hb hK hP 2 0 rfl rfl (by unfold vp_in; decide) dX10_manyNow_91 ?_
  refine lv_topi (fun x_14 ex_14 => ?_)
  obtain rfl : x_14 = 0 := ex_14.trans (by decide +kernel)
  refine va_iast hx hb hK hP hD hS 4 1 rfl rfl (by unfold vp_in; decide) dX10_manyNow_92 (fun H locs hP hD hS => ?_)
  have hP : va_P (dC, dI) vwCl [(m0, .inr (12, [.int 0, .ref l1, .ref l2, .int 0, .int 0, .int 0, .long s0])), (l2, .inr (1, [.int 0, .ref a0, .int 0])), (q_1, .inl (cy_2, 5, .inl (fun _ => 0))), (r_3, .inr (0, [.int 0, .int (-1), .int 0, .ref l1])), (q_6, .inl (cy_7, 11, .inl (upd (upd (upd (upd (fun _ => 0) ((0 : Int32).toNatClampNeg) 0) ((1 : Int32).toNatClampNeg) 0) ((2 : Int32).toNatClampNeg) 0) ((3 : Int32).toNatClampNeg) 0))), (l1, .inr (1, [.int 0, .ref a0, .int 0]))] H := hP
  have hD : va_D A [(m0, .inr (12, [.int 0, .ref l1, .ref l2, .int 0, .int 0, .int 0, .long s0])), (l2, .inr (1, [.int 0, .ref a0, .int 0])), (q_1, .inl (cy_2, 5, .inl (fun _ => 0))), (r_3, .inr (0, [.int 0, .int (-1), .int 0, .ref l1])), (q_6, .inl (cy_7, 11, .inl (upd (upd (upd (upd (fun _ => 0) ((0 : Int32).toNatClampNeg) 0) ((1 : Int32).toNatClampNeg) 0) ((2 : Int32).toNatClampNeg) 0) ((3 : Int32).toNatClampNeg) 0))), (l1, .inr (1, [.int 0, .ref a0, .int 0]))] := hD
  refine lv_dup hx hb dX10_manyNow_93 rfl ?_
  refine lv_iconst (v := 4) hx hb dX10_manyNow_94 (by decide) ?_
  refine lv_aload_n hx hb dX10_manyNow_95 rfl (lv_at hl 2 rfl) ?_
  refine lv_iconst (v := 3) hx hb dX10_manyNow_96 (by decide) ?_
  refine va_iald hx hb hK hP 2 0 rfl rfl (by unfold vp_in; decide) dX10_manyNow_97 ?_
  refine lv_topi (fun x_16 ex_16 => ?_)
  obtain rfl : x_16 = 0 := ex_16.trans (by decide +kernel)
  refine va_iast hx hb hK hP hD hS 4 1 rfl rfl (by unfold vp_in; decide) dX10_manyNow_98 (fun H locs hP hD hS => ?_)
  have hP : va_P (dC, dI) vwCl [(m0, .inr (12, [.int 0, .ref l1, .ref l2, .int 0, .int 0, .int 0, .long s0])), (l2, .inr (1, [.int 0, .ref a0, .int 0])), (q_1, .inl (cy_2, 5, .inl (fun _ => 0))), (r_3, .inr (0, [.int 0, .int (-1), .int 0, .ref l1])), (q_6, .inl (cy_7, 11, .inl (upd (upd (upd (upd (upd (fun _ => 0) ((0 : Int32).toNatClampNeg) 0) ((1 : Int32).toNatClampNeg) 0) ((2 : Int32).toNatClampNeg) 0) ((3 : Int32).toNatClampNeg) 0) ((4 : Int32).toNatClampNeg) 0))), (l1, .inr (1, [.int 0, .ref a0, .int 0]))] H := hP
  have hD : va_D A [(m0, .inr (12, [.int 0, .ref l1, .ref l2, .int 0, .int 0, .int 0, .long s0])), (l2, .inr (1, [.int 0, .ref a0, .int 0])), (q_1, .inl (cy_2, 5, .inl (fun _ => 0))), (r_3, .inr (0, [.int 0, .int (-1), .int 0, .ref l1])), (q_6, .inl (cy_7, 11, .inl (upd (upd (upd (upd (upd (fun _ => 0) ((0 : Int32).toNatClampNeg) 0) ((1 : Int32).toNatClampNeg) 0) ((2 : Int32).toNatClampNeg) 0) ((3 : Int32).toNatClampNeg) 0) ((4 : Int32).toNatClampNeg) 0))), (l1, .inr (1, [.int 0, .ref a0, .int 0]))] := hD
  refine lv_dup hx hb dX10_manyNow_99 rfl ?_
  refine lv_iconst (v := 5) hx hb dX10_manyNow_100 (by decide) ?_
  refine lv_aload_n hx hb dX10_manyNow_101 rfl (lv_at hl 2 rfl) ?_
  refine lv_iconst (v := 4) hx hb dX10_manyNow_102 (by decide) ?_
  refine va_iald hx hb hK hP 2 0 rfl rfl (by unfold vp_in; decide) dX10_manyNow_103 ?_
  refine lv_topi (fun x_18 ex_18 => ?_)
  obtain rfl : x_18 = 0 := ex_18.trans (by decide +kernel)
  refine va_iast hx hb hK hP hD hS 4 1 rfl rfl (by unfold vp_in; decide) dX10_manyNow_104 (fun H locs hP hD hS => ?_)
  have hP : va_P (dC, dI) vwCl [(m0, .inr (12, [.int 0, .ref l1, .ref l2, .int 0, .int 0, .int 0, .long s0])), (l2, .inr (1, [.int 0, .ref a0, .int 0])), (q_1, .inl (cy_2, 5, .inl (fun _ => 0))), (r_3, .inr (0, [.int 0, .int (-1), .int 0, .ref l1])), (q_6, .inl (cy_7, 11, .inl (upd (upd (upd (upd (upd (upd (fun _ => 0) ((0 : Int32).toNatClampNeg) 0) ((1 : Int32).toNatClampNeg) 0) ((2 : Int32).toNatClampNeg) 0) ((3 : Int32).toNatClampNeg) 0) ((4 : Int32).toNatClampNeg) 0) ((5 : Int32).toNatClampNeg) 0))), (l1, .inr (1, [.int 0, .ref a0, .int 0]))] H := hP
  have hD : va_D A [(m0, .inr (12, [.int 0, .ref l1, .ref l2, .int 0, .int 0, .int 0, .long s0])), (l2, .inr (1, [.int 0, .ref a0, .int 0])), (q_1, .inl (cy_2, 5, .inl (fun _ => 0))), (r_3, .inr (0, [.int 0, .int (-1), .int 0, .ref l1])), (q_6, .inl (cy_7, 11, .inl (upd (upd (upd (upd (upd (upd (fun _ => 0) ((0 : Int32).toNatClampNeg) 0) ((1 : Int32).toNatClampNeg) 0) ((2 : Int32).toNatClampNeg) 0) ((3 : Int32).toNatClampNeg) 0) ((4 : Int32).toNatClampNeg) 0) ((5 : Int32).toNatClampNeg) 0))), (l1, .inr (1, [.int 0, .ref a0, .int 0]))] := hD
  refine lv_dup hx hb dX10_manyNow_105 rfl ?_
  refine lv_bipush (v := 6) hx hb dX10_manyNow_106 (by decide) ?_
  refine lv_aload_n hx hb dX10_manyNow_108 rfl (lv_at hl 3 rfl) ?_
  refine va_get (D := (dC, dI)) (ci := 12) (v := .ref l2) (C := RX10) (T := TX10) (N := 7) hx hb hts hiX10 hown hK hP 0 rfl rfl 2 (by decide) (hts (.fieldLink RX10 16 "HaltingaleModel" "tags" "Ljava/util/ArrayList;") (by decide +kernel)) (fun _ h9 => h9) rfl dX10_manyNow_109 ?_
  have hPc := hP.sub (ws' := [(l2, .inr (1, [.int 0, .ref a0, .int 0]))]) [1] rfl
  have hDc := hD.sub (ws' := [(l2, .inr (1, [.int 0, .ref a0, .int 0]))]) [1] (by decide) rfl
  have hKc := hK.sub (tys' := []) [] rfl
  have hFc := va_free (wc := [(l2, .inr (1, [.int 0, .ref a0, .int 0]))]) hD hS hA [1] rfl
  have hZc := ((hZ.kept hS.2.1).narrow hFc)
  refine va_calli (va_runV (As := []) (rest := [.int 6, .ref q_6, .ref q_6]) ⟨hx, hb, hml, hown, hts⟩ (c_Jx4a65c_size_8abf5 l hnt dC dI a0 l2 0 a0 0 H.size ) (cwV 0 hts (goodIn_of _ (by decide +kernel)) rfl rfl rfl (by decide +kernel) ⟨Nat.le_of_ble_eq_true rfl, Nat.le_of_ble_eq_true rfl⟩) ⟨fun a U g mk q => by obtain ⟨q0, q1, qP, qK, qD, qZ⟩ := q; exact ⟨q0, q1, qP, va_K.moved (u := U) (U := U.calling g mk a) (Vm.Alike.refl U.vm) qK, qD, qZ.call⟩, va_recv hKc hPc (ci := 1) (q0 := 0) rfl rfl, fun U hU hW => ⟨rfl, by rw [hU], by rw [hU]; exact hPc, va_K.moved hW.alike hKc, hDc.weaken (fun _ _ _ _ => trivial), by rw [hU]; exact hZc.warm hW⟩⟩ rfl rfl hl.1 rfl (lv_room (Nat.le_of_ble_eq_true rfl)) dX10_manyNow_112 ⟨Nat.le_of_ble_eq_true rfl, Nat.le_of_ble_eq_true rfl⟩) hS (fun q _ h => hFc q h) hFc (fun r_20 u t H1 locs ht hvm hw hB hz1 hk1 hS => ?_)
  obtain ⟨hP1, hK1, hD1⟩ := hB
  rw [ht] at hP1
  have hK1 := va_K.moved hvm.symm hK1
  obtain ⟨hP, hD⟩ := va_join (wr := [(m0, .inr (12, [.int 0, .ref l1, .ref l2, .int 0, .int 0, .int 0, .long s0])), (q_1, .inl (cy_2, 5, .inl (fun _ => 0))), (r_3, .inr (0, [.int 0, .int (-1), .int 0, .ref l1])), (q_6, .inl (cy_7, 11, .inl (upd (upd (upd (upd (upd (upd (fun _ => 0) ((0 : Int32).toNatClampNeg) 0) ((1 : Int32).toNatClampNeg) 0) ((2 : Int32).toNatClampNeg) 0) ((3 : Int32).toNatClampNeg) 0) ((4 : Int32).toNatClampNeg) 0) ((5 : Int32).toNatClampNeg) 0))), (l1, .inr (1, [.int 0, .ref a0, .int 0]))]) (w1 := [(l2, .inr (1, [.int 0, .ref a0, .int 0]))]) hP hD [1] [0, 2, 3, 4, 5] rfl rfl (by decide) (by decide) hk1 hFc hP1 hD1
  have hK := (hK.sub (tys' := [(cy_2, .int), (cy_7, .int)]) [0, 1] rfl).app hK1
  generalize H1 = H at hP hS ⊢
  have hP : va_P (dC, dI) vwCl [(m0, .inr (12, [.int 0, .ref l1, .ref l2, .int 0, .int 0, .int 0, .long s0])), (q_1, .inl (cy_2, 5, .inl (fun _ => 0))), (r_3, .inr (0, [.int 0, .int (-1), .int 0, .ref l1])), (q_6, .inl (cy_7, 11, .inl (upd (upd (upd (upd (upd (upd (fun _ => 0) ((0 : Int32).toNatClampNeg) 0) ((1 : Int32).toNatClampNeg) 0) ((2 : Int32).toNatClampNeg) 0) ((3 : Int32).toNatClampNeg) 0) ((4 : Int32).toNatClampNeg) 0) ((5 : Int32).toNatClampNeg) 0))), (l1, .inr (1, [.int 0, .ref a0, .int 0])), (l2, .inr (1, [.int 0, .ref a0, .int 0]))] H := hP
  have hD : va_D A [(m0, .inr (12, [.int 0, .ref l1, .ref l2, .int 0, .int 0, .int 0, .long s0])), (q_1, .inl (cy_2, 5, .inl (fun _ => 0))), (r_3, .inr (0, [.int 0, .int (-1), .int 0, .ref l1])), (q_6, .inl (cy_7, 11, .inl (upd (upd (upd (upd (upd (upd (fun _ => 0) ((0 : Int32).toNatClampNeg) 0) ((1 : Int32).toNatClampNeg) 0) ((2 : Int32).toNatClampNeg) 0) ((3 : Int32).toNatClampNeg) 0) ((4 : Int32).toNatClampNeg) 0) ((5 : Int32).toNatClampNeg) 0))), (l1, .inr (1, [.int 0, .ref a0, .int 0])), (l2, .inr (1, [.int 0, .ref a0, .int 0]))] := hD
  have hK : va_K (dC, dI) vwCl [(cy_2, .int), (cy_7, .int)] s := hK
  refine W.widen (k := 3) (n := 20) (Nat.le_of_ble_eq_true rfl) (Nat.le_of_ble_eq_true rfl) ?_
  obtain rfl : r_20 = 0 := hw
  refine va_iast hx hb hK hP hD hS 3 1 rfl rfl (by unfold vp_in; decide) dX10_manyNow_115 (fun H locs hP hD hS => ?_)
  have hP : va_P (dC, dI) vwCl [(m0, .inr (12, [.int 0, .ref l1, .ref l2, .int 0, .int 0, .int 0, .long s0])), (q_1, .inl (cy_2, 5, .inl (fun _ => 0))), (r_3, .inr (0, [.int 0, .int (-1), .int 0, .ref l1])), (q_6, .inl (cy_7, 11, .inl (upd (upd (upd (upd (upd (upd (upd (fun _ => 0) ((0 : Int32).toNatClampNeg) 0) ((1 : Int32).toNatClampNeg) 0) ((2 : Int32).toNatClampNeg) 0) ((3 : Int32).toNatClampNeg) 0) ((4 : Int32).toNatClampNeg) 0) ((5 : Int32).toNatClampNeg) 0) ((6 : Int32).toNatClampNeg) 0))), (l1, .inr (1, [.int 0, .ref a0, .int 0])), (l2, .inr (1, [.int 0, .ref a0, .int 0]))] H := hP
  have hD : va_D A [(m0, .inr (12, [.int 0, .ref l1, .ref l2, .int 0, .int 0, .int 0, .long s0])), (q_1, .inl (cy_2, 5, .inl (fun _ => 0))), (r_3, .inr (0, [.int 0, .int (-1), .int 0, .ref l1])), (q_6, .inl (cy_7, 11, .inl (upd (upd (upd (upd (upd (upd (upd (fun _ => 0) ((0 : Int32).toNatClampNeg) 0) ((1 : Int32).toNatClampNeg) 0) ((2 : Int32).toNatClampNeg) 0) ((3 : Int32).toNatClampNeg) 0) ((4 : Int32).toNatClampNeg) 0) ((5 : Int32).toNatClampNeg) 0) ((6 : Int32).toNatClampNeg) 0))), (l1, .inr (1, [.int 0, .ref a0, .int 0])), (l2, .inr (1, [.int 0, .ref a0, .int 0]))] := hD
  refine lv_dup hx hb dX10_manyNow_116 rfl ?_
  refine lv_bipush (v := 7) hx hb dX10_manyNow_117 (by decide) ?_
  refine lv_aload_n hx hb dX10_manyNow_119 rfl (lv_at hl 3 rfl) ?_
  refine va_get (D := (dC, dI)) (ci := 12) (v := .int 0) (C := RX10) (T := TX10) (N := 7) hx hb hts hiX10 hown hK hP 0 rfl rfl 3 (by decide) (hts (.fieldLink RX10 191 "HaltingaleModel" "given" "I") (by decide +kernel)) (fun _ h9 => h9) rfl dX10_manyNow_120 ?_
  refine va_iast hx hb hK hP hD hS 3 1 rfl rfl (by unfold vp_in; decide) dX10_manyNow_123 (fun H locs hP hD hS => ?_)
  have hP : va_P (dC, dI) vwCl [(m0, .inr (12, [.int 0, .ref l1, .ref l2, .int 0, .int 0, .int 0, .long s0])), (q_1, .inl (cy_2, 5, .inl (fun _ => 0))), (r_3, .inr (0, [.int 0, .int (-1), .int 0, .ref l1])), (q_6, .inl (cy_7, 11, .inl (upd (upd (upd (upd (upd (upd (upd (upd (fun _ => 0) ((0 : Int32).toNatClampNeg) 0) ((1 : Int32).toNatClampNeg) 0) ((2 : Int32).toNatClampNeg) 0) ((3 : Int32).toNatClampNeg) 0) ((4 : Int32).toNatClampNeg) 0) ((5 : Int32).toNatClampNeg) 0) ((6 : Int32).toNatClampNeg) 0) ((7 : Int32).toNatClampNeg) 0))), (l1, .inr (1, [.int 0, .ref a0, .int 0])), (l2, .inr (1, [.int 0, .ref a0, .int 0]))] H := hP
  have hD : va_D A [(m0, .inr (12, [.int 0, .ref l1, .ref l2, .int 0, .int 0, .int 0, .long s0])), (q_1, .inl (cy_2, 5, .inl (fun _ => 0))), (r_3, .inr (0, [.int 0, .int (-1), .int 0, .ref l1])), (q_6, .inl (cy_7, 11, .inl (upd (upd (upd (upd (upd (upd (upd (upd (fun _ => 0) ((0 : Int32).toNatClampNeg) 0) ((1 : Int32).toNatClampNeg) 0) ((2 : Int32).toNatClampNeg) 0) ((3 : Int32).toNatClampNeg) 0) ((4 : Int32).toNatClampNeg) 0) ((5 : Int32).toNatClampNeg) 0) ((6 : Int32).toNatClampNeg) 0) ((7 : Int32).toNatClampNeg) 0))), (l1, .inr (1, [.int 0, .ref a0, .int 0])), (l2, .inr (1, [.int 0, .ref a0, .int 0]))] := hD
  refine lv_dup hx hb dX10_manyNow_124 rfl ?_
  refine lv_bipush (v := 8) hx hb dX10_manyNow_125 (by decide) ?_
  refine lv_aload_n hx hb dX10_manyNow_127 rfl (lv_at hl 3 rfl) ?_
  refine va_get (D := (dC, dI)) (ci := 12) (v := .int 0) (C := RX10) (T := TX10) (N := 7) hx hb hts hiX10 hown hK hP 0 rfl rfl 4 (by decide) (hts (.fieldLink RX10 194 "HaltingaleModel" "taken" "I") (by decide +kernel)) (fun _ h9 => h9) rfl dX10_manyNow_128 ?_
  refine va_iast hx hb hK hP hD hS 3 1 rfl rfl (by unfold vp_in; decide) dX10_manyNow_131 (fun H locs hP hD hS => ?_)
  have hP : va_P (dC, dI) vwCl [(m0, .inr (12, [.int 0, .ref l1, .ref l2, .int 0, .int 0, .int 0, .long s0])), (q_1, .inl (cy_2, 5, .inl (fun _ => 0))), (r_3, .inr (0, [.int 0, .int (-1), .int 0, .ref l1])), (q_6, .inl (cy_7, 11, .inl (upd (upd (upd (upd (upd (upd (upd (upd (upd (fun _ => 0) ((0 : Int32).toNatClampNeg) 0) ((1 : Int32).toNatClampNeg) 0) ((2 : Int32).toNatClampNeg) 0) ((3 : Int32).toNatClampNeg) 0) ((4 : Int32).toNatClampNeg) 0) ((5 : Int32).toNatClampNeg) 0) ((6 : Int32).toNatClampNeg) 0) ((7 : Int32).toNatClampNeg) 0) ((8 : Int32).toNatClampNeg) 0))), (l1, .inr (1, [.int 0, .ref a0, .int 0])), (l2, .inr (1, [.int 0, .ref a0, .int 0]))] H := hP
  have hD : va_D A [(m0, .inr (12, [.int 0, .ref l1, .ref l2, .int 0, .int 0, .int 0, .long s0])), (q_1, .inl (cy_2, 5, .inl (fun _ => 0))), (r_3, .inr (0, [.int 0, .int (-1), .int 0, .ref l1])), (q_6, .inl (cy_7, 11, .inl (upd (upd (upd (upd (upd (upd (upd (upd (upd (fun _ => 0) ((0 : Int32).toNatClampNeg) 0) ((1 : Int32).toNatClampNeg) 0) ((2 : Int32).toNatClampNeg) 0) ((3 : Int32).toNatClampNeg) 0) ((4 : Int32).toNatClampNeg) 0) ((5 : Int32).toNatClampNeg) 0) ((6 : Int32).toNatClampNeg) 0) ((7 : Int32).toNatClampNeg) 0) ((8 : Int32).toNatClampNeg) 0))), (l1, .inr (1, [.int 0, .ref a0, .int 0])), (l2, .inr (1, [.int 0, .ref a0, .int 0]))] := hD
  refine lv_dup hx hb dX10_manyNow_132 rfl ?_
  refine lv_bipush (v := 9) hx hb dX10_manyNow_133 (by decide) ?_
  refine lv_aload_n hx hb dX10_manyNow_135 rfl (lv_at hl 3 rfl) ?_
  refine va_get (D := (dC, dI)) (ci := 12) (v := .int 0) (C := RX10) (T := TX10) (N := 7) hx hb hts hiX10 hown hK hP 0 rfl rfl 5 (by decide) (hts (.fieldLink RX10 67 "HaltingaleModel" "back" "I") (by decide +kernel)) (fun _ h9 => h9) rfl dX10_manyNow_136 ?_
  refine va_iast hx hb hK hP hD hS 3 1 rfl rfl (by unfold vp_in; decide) dX10_manyNow_139 (fun H locs hP hD hS => ?_)
  have hP : va_P (dC, dI) vwCl [(m0, .inr (12, [.int 0, .ref l1, .ref l2, .int 0, .int 0, .int 0, .long s0])), (q_1, .inl (cy_2, 5, .inl (fun _ => 0))), (r_3, .inr (0, [.int 0, .int (-1), .int 0, .ref l1])), (q_6, .inl (cy_7, 11, .inl (upd (upd (upd (upd (upd (upd (upd (upd (upd (upd (fun _ => 0) ((0 : Int32).toNatClampNeg) 0) ((1 : Int32).toNatClampNeg) 0) ((2 : Int32).toNatClampNeg) 0) ((3 : Int32).toNatClampNeg) 0) ((4 : Int32).toNatClampNeg) 0) ((5 : Int32).toNatClampNeg) 0) ((6 : Int32).toNatClampNeg) 0) ((7 : Int32).toNatClampNeg) 0) ((8 : Int32).toNatClampNeg) 0) ((9 : Int32).toNatClampNeg) 0))), (l1, .inr (1, [.int 0, .ref a0, .int 0])), (l2, .inr (1, [.int 0, .ref a0, .int 0]))] H := hP
  have hD : va_D A [(m0, .inr (12, [.int 0, .ref l1, .ref l2, .int 0, .int 0, .int 0, .long s0])), (q_1, .inl (cy_2, 5, .inl (fun _ => 0))), (r_3, .inr (0, [.int 0, .int (-1), .int 0, .ref l1])), (q_6, .inl (cy_7, 11, .inl (upd (upd (upd (upd (upd (upd (upd (upd (upd (upd (fun _ => 0) ((0 : Int32).toNatClampNeg) 0) ((1 : Int32).toNatClampNeg) 0) ((2 : Int32).toNatClampNeg) 0) ((3 : Int32).toNatClampNeg) 0) ((4 : Int32).toNatClampNeg) 0) ((5 : Int32).toNatClampNeg) 0) ((6 : Int32).toNatClampNeg) 0) ((7 : Int32).toNatClampNeg) 0) ((8 : Int32).toNatClampNeg) 0) ((9 : Int32).toNatClampNeg) 0))), (l1, .inr (1, [.int 0, .ref a0, .int 0])), (l2, .inr (1, [.int 0, .ref a0, .int 0]))] := hD
  refine lv_dup hx hb dX10_manyNow_140 rfl ?_
  refine lv_bipush (v := 10) hx hb dX10_manyNow_141 (by decide) ?_
  refine lv_iload_n hx hb dX10_manyNow_143 rfl (lv_at hl 1 rfl) ?_
  refine va_iast hx hb hK hP hD hS 3 1 rfl rfl (by unfold vp_in; decide) dX10_manyNow_144 (fun H locs hP hD hS => ?_)
  have hP : va_P (dC, dI) vwCl [(m0, .inr (12, [.int 0, .ref l1, .ref l2, .int 0, .int 0, .int 0, .long s0])), (q_1, .inl (cy_2, 5, .inl (fun _ => 0))), (r_3, .inr (0, [.int 0, .int (-1), .int 0, .ref l1])), (q_6, .inl (cy_7, 11, .inl (upd (upd (upd (upd (upd (upd (upd (upd (upd (upd (upd (fun _ => 0) ((0 : Int32).toNatClampNeg) 0) ((1 : Int32).toNatClampNeg) 0) ((2 : Int32).toNatClampNeg) 0) ((3 : Int32).toNatClampNeg) 0) ((4 : Int32).toNatClampNeg) 0) ((5 : Int32).toNatClampNeg) 0) ((6 : Int32).toNatClampNeg) 0) ((7 : Int32).toNatClampNeg) 0) ((8 : Int32).toNatClampNeg) 0) ((9 : Int32).toNatClampNeg) 0) ((10 : Int32).toNatClampNeg) 0))), (l1, .inr (1, [.int 0, .ref a0, .int 0])), (l2, .inr (1, [.int 0, .ref a0, .int 0]))] H := hP
  have hD : va_D A [(m0, .inr (12, [.int 0, .ref l1, .ref l2, .int 0, .int 0, .int 0, .long s0])), (q_1, .inl (cy_2, 5, .inl (fun _ => 0))), (r_3, .inr (0, [.int 0, .int (-1), .int 0, .ref l1])), (q_6, .inl (cy_7, 11, .inl (upd (upd (upd (upd (upd (upd (upd (upd (upd (upd (upd (fun _ => 0) ((0 : Int32).toNatClampNeg) 0) ((1 : Int32).toNatClampNeg) 0) ((2 : Int32).toNatClampNeg) 0) ((3 : Int32).toNatClampNeg) 0) ((4 : Int32).toNatClampNeg) 0) ((5 : Int32).toNatClampNeg) 0) ((6 : Int32).toNatClampNeg) 0) ((7 : Int32).toNatClampNeg) 0) ((8 : Int32).toNatClampNeg) 0) ((9 : Int32).toNatClampNeg) 0) ((10 : Int32).toNatClampNeg) 0))), (l1, .inr (1, [.int 0, .ref a0, .int 0])), (l2, .inr (1, [.int 0, .ref a0, .int 0]))] := hD
  refine lv_astore (lv' := [(4, .ref q_6), (3, .int 0), (2, .ref q_1), (0, .ref m0), (1, .int 2)]) hx hb dX10_manyNow_145 hl (by decide) rfl (fun ls hl => ?_)
  refine lv_aload hx hb dX10_manyNow_147 (lv_at hl 0 rfl) ?_
  refine lv_iload_n hx hb dX10_manyNow_149 rfl (lv_at hl 4 rfl) ?_
  refine va_iald hx hb hK hP 3 1 rfl rfl (by unfold vp_in; decide) dX10_manyNow_150 ?_
  refine lv_topi (fun x_26 ex_26 => ?_)
  obtain rfl : x_26 = 0 := ex_26.trans (by decide +kernel)
  have hP9 := hP.sub (ws' := [(m0, .inr (12, [.int 0, .ref l1, .ref l2, .int 0, .int 0, .int 0, .long s0])), (l1, .inr (1, [.int 0, .ref a0, .int 0])), (l2, .inr (1, [.int 0, .ref a0, .int 0]))]) [0, 4, 5] rfl
  have hD9 := hD.sub (ws' := [(m0, .inr (12, [.int 0, .ref l1, .ref l2, .int 0, .int 0, .int 0, .long s0])), (l1, .inr (1, [.int 0, .ref a0, .int 0])), (l2, .inr (1, [.int 0, .ref a0, .int 0]))]) [0, 4, 5] (by decide) rfl
  have hK9 := hK.sub (tys' := []) [] rfl
  refine W.widen (k := 3) (n := 20) (Nat.le_of_ble_eq_true rfl) (Nat.le_of_ble_eq_true rfl) ?_
  exact W.iret (v := 0) hx hb hr (fun t ht hW => ⟨⟨0, (), rfl, rfl, ⟨by rw [ht]; exact hP9, va_K.moved hW.alike hK9, hD9⟩⟩, hS.F ht⟩) hS.2.2 dX10_manyNow_151

def zs_c_X10_manyNow_3 : List Cond := .code yX10_manyNow cX10_manyNow 6 (some .int) :: (([.arrayClass .int, .fieldLink RX10 10 "HaltingaleModel" "machines" "Ljava/util/ArrayList;", .code yJx4a65c_iterator_32c93 cJx4a65c_iterator_32c93 1 (some (.object "java/util/Iterator")), .classLink RJx4a65c 267 RJx35411, .instantiable RJx35411 4, .initialized RJx35411, .code yJx35411_init_45d68 cJx35411_init_45d68 2 none, .fieldLink RJx35411 1 "java/util/ArrayList$Itr" "this$0" "Ljava/util/ArrayList;", .methodLink RJx35411 7 objectInit, .instanceMethod objectInit, .code objectInit ⟨#[0xb1]⟩ 1 none, .fieldLink RJx35411 13 "java/util/ArrayList$Itr" "lastRet" "I", .sameField "java/util/ArrayList" "java/util/AbstractList" "modCount" "I", .fieldLink RJx35411 17 "java/util/ArrayList" "modCount" "I", .fieldLink RJx35411 22 "java/util/ArrayList$Itr" "expectedModCount" "I", .methodLink RJx4a65c 269 yJx35411_init_45d68, .instanceMethod yJx35411_init_45d68, .methodLink RX10 158 yJx4a65c_iterator_32c93, .instanceMethod yJx4a65c_iterator_32c93, .initialized RJx4a65c, .selects RJx4a65c yJx4a65c_iterator_32c93 yJx4a65c_iterator_32c93, .code yJx35411_hasNext_aae02 cJx35411_hasNext_aae02 1 (some .boolean), .fieldLink RJx35411 25 "java/util/ArrayList$Itr" "cursor" "I", .methodLink RX10 162 ⟨"java/util/Iterator", "hasNext", "()Z"⟩, .instanceMethod yJx35411_hasNext_aae02, .selects RJx35411 ⟨"java/util/Iterator", "hasNext", "()Z"⟩ yJx35411_hasNext_aae02, .code yJx4a65c_size_8abf5 cJx4a65c_size_8abf5 1 (some .int), .fieldLink RJx4a65c 48 "java/util/ArrayList" "size" "I", .methodLink RX10 23 yJx4a65c_size_8abf5, .instanceMethod yJx4a65c_size_8abf5, .selects RJx4a65c yJx4a65c_size_8abf5 yJx4a65c_size_8abf5, .fieldLink RX10 16 "HaltingaleModel" "tags" "Ljava/util/ArrayList;", .fieldLink RX10 191 "HaltingaleModel" "given" "I", .fieldLink RX10 194 "HaltingaleModel" "taken" "I", .fieldLink RX10 67 "HaltingaleModel" "back" "I"] : List Cond) ++ wsX100 ++ wsJx354110 ++ wsJx4a65c0)
set_option maxHeartbeats 4000000 in
set_option maxRecDepth 100000 in
/-- manyNow of 3 -/
theorem c_X10_manyNow_3 (l : Launch) (hnt : l.stackTraces = false) (dC : Nat → ClassId) (dI : Nat → Nat → Nat) (a0 : Nat) (m0 : Nat) (l1 : Nat) (l2 : Nat) (s0 : Int64) (sz : Nat)  : Met l yX10_manyNow zs_c_X10_manyNow_3 ({ frames := 3, cells := 3, slots := 20, locals := 53 }) (va_Pc [.ref m0, .int 3] (fun U => U.heap.size = sz ∧ va_P (dC, dI) vwCl [(m0, .inr (12, [.int 0, .ref l1, .ref l2, .int 0, .int 0, .int 0, .long s0])), (l1, .inr (1, [.int 0, .ref a0, .int 0])), (l2, .inr (1, [.int 0, .ref a0, .int 0]))] U.heap ∧ va_K (dC, dI) vwCl [] U ∧ va_D (fun _ => True) [(m0, .inr (12, [.int 0, .ref l1, .ref l2, .int 0, .int 0, .int 0, .long s0])), (l1, .inr (1, [.int 0, .ref a0, .int 0])), (l2, .inr (1, [.int 0, .ref a0, .int 0]))] ∧ zB a0 (va_A [(m0, .inr (12, [.int 0, .ref l1, .ref l2, .int 0, .int 0, .int 0, .long s0])), (l1, .inr (1, [.int 0, .ref a0, .int 0])), (l2, .inr (1, [.int 0, .ref a0, .int 0]))] sz) U U.heap)) (va_Qi (fun (r : Int32) (_ : Unit) => r = 0) (fun _ t => va_P (dC, dI) vwCl [(m0, .inr (12, [.int 0, .ref l1, .ref l2, .int 0, .int 0, .int 0, .long s0])), (l1, .inr (1, [.int 0, .ref a0, .int 0])), (l2, .inr (1, [.int 0, .ref a0, .int 0]))] t.heap ∧ va_K (dC, dI) vwCl [] t ∧ va_D (va_A [(m0, .inr (12, [.int 0, .ref l1, .ref l2, .int 0, .int 0, .int 0, .long s0])), (l1, .inr (1, [.int 0, .ref a0, .int 0])), (l2, .inr (1, [.int 0, .ref a0, .int 0]))] sz) [(m0, .inr (12, [.int 0, .ref l1, .ref l2, .int 0, .int 0, .int 0, .long s0])), (l1, .inr (1, [.int 0, .ref a0, .int 0])), (l2, .inr (1, [.int 0, .ref a0, .int 0]))]) (va_A [(m0, .inr (12, [.int 0, .ref l1, .ref l2, .int 0, .int 0, .int 0, .long s0])), (l1, .inr (1, [.int 0, .ref a0, .int 0])), (l2, .inr (1, [.int 0, .ref a0, .int 0]))] sz)) 3 20 (va_A [(m0, .inr (12, [.int 0, .ref l1, .ref l2, .int 0, .int 0, .int 0, .long s0])), (l1, .inr (1, [.int 0, .ref a0, .int 0])), (l2, .inr (1, [.int 0, .ref a0, .int 0]))] sz) := by
  refine Met.ofW (cc := cX10_manyNow) (maxL := 6) (ret := (some .int)) (by decide) rfl ?_
  intro p e s m args below meth c s₁ B hml hv
  obtain ⟨rfl, hsz, hP, hK, hD0, hZ⟩ := hv
  have hx := B.exec
  have hb := B.bytes
  have hr := B.returns
  have hts := atoms_spec (ws := zs_c_X10_manyNow_3) B.pre
  have hown : s.vm.findClass RX10 = some m.cls := findClass_of_methodNamed B.named
  have hlocks := B.notSynchronized
  have hiX10 : ∀ w ∈ wsX100, w ∈ zs_c_X10_manyNow_3 := by decide +kernel
  subst hsz
  have hD := hD0.self (sz := s.heap.size)
  generalize hAe : va_A [(m0, .inr (12, [.int 0, .ref l1, .ref l2, .int 0, .int 0, .int 0, .long s0])), (l1, .inr (1, [.int 0, .ref a0, .int 0])), (l2, .inr (1, [.int 0, .ref a0, .int 0]))] s.heap.size = A at hD hZ ⊢
  have hA : ∀ q : Nat, s.heap.size ≤ q → A q := fun q h => by rw [← hAe]; exact Or.inr h
  have hS : va_S A s.heap s.heap [] := va_S.rf
  have hl := lv_entry ([.ref m0, .int 3]) (n := 6) (Nat.le_of_ble_eq_true rfl)
  rw [lg_entry_eq]
  generalize (lg_sl ([.ref m0, .int 3]) ++ List.replicate (6 - (lg_sl ([.ref m0, .int 3])).length) Slot.unset).toArray = ls at hl ⊢
  have hl : lv_has ls 6 [(0, .ref m0), (1, .int 3)] := hl
  refine lv_iconst (v := 5) hx hb dX10_manyNow_0 (by decide) ?_
  refine va_newa (atype := .int) (ty := .int) (N' := 5) (a0 := (5, .inl (fun _ => 0))) hx hb (hts (.arrayClass .int) (by decide +kernel)) rfl hK hP hD hS hA (fun _ => rfl) (by decide) (by decide) (Nat.le_of_ble_eq_true rfl) (Nat.le_of_ble_eq_true rfl) (Nat.le_of_ble_eq_true rfl) dX10_manyNow_1 (fun q_1 cy_2 H hK hP hD hS => ?_)
  have hK : va_K (dC, dI) vwCl [(cy_2, .int)] s := hK
  have hP : va_P (dC, dI) vwCl [(m0, .inr (12, [.int 0, .ref l1, .ref l2, .int 0, .int 0, .int 0, .long s0])), (l1, .inr (1, [.int 0, .ref a0, .int 0])), (l2, .inr (1, [.int 0, .ref a0, .int 0])), (q_1, .inl (cy_2, 5, .inl (fun _ => 0)))] H := hP
  have hD : va_D A [(m0, .inr (12, [.int 0, .ref l1, .ref l2, .int 0, .int 0, .int 0, .long s0])), (l1, .inr (1, [.int 0, .ref a0, .int 0])), (l2, .inr (1, [.int 0, .ref a0, .int 0])), (q_1, .inl (cy_2, 5, .inl (fun _ => 0)))] := hD
  refine W.widen (k := 1) (n := 5) (Nat.le_of_ble_eq_true rfl) (Nat.le_of_ble_eq_true rfl) ?_
  refine lv_astore_n (lv' := [(2, .ref q_1), (0, .ref m0), (1, .int 3)]) hx hb dX10_manyNow_3 rfl hl (by decide) rfl (fun ls hl => ?_)
  refine lv_iconst (v := 0) hx hb dX10_manyNow_4 (by decide) ?_
  refine lv_istore_n (lv' := [(3, .int 0), (2, .ref q_1), (0, .ref m0), (1, .int 3)]) hx hb dX10_manyNow_5 rfl hl (by decide) rfl (fun ls hl => ?_)
  refine lv_aload_n hx hb dX10_manyNow_6 rfl (lv_at hl 2 rfl) ?_
  refine va_get (D := (dC, dI)) (ci := 12) (v := .ref l1) (C := RX10) (T := TX10) (N := 7) hx hb hts hiX10 hown hK hP 0 rfl rfl 1 (by decide) (hts (.fieldLink RX10 10 "HaltingaleModel" "machines" "Ljava/util/ArrayList;") (by decide +kernel)) (fun _ h9 => h9) rfl dX10_manyNow_7 ?_
  have hPc := hP.sub (ws' := [(l1, .inr (1, [.int 0, .ref a0, .int 0]))]) [1] rfl
  have hDc := hD.sub (ws' := [(l1, .inr (1, [.int 0, .ref a0, .int 0]))]) [1] (by decide) rfl
  have hKc := hK.sub (tys' := []) [] rfl
  have hFc := va_free (wc := [(l1, .inr (1, [.int 0, .ref a0, .int 0]))]) hD hS hA [1] rfl
  have hZc := ((hZ.kept hS.2.1).narrow hFc)
  refine va_callr (va_runV (As := []) (rest := []) ⟨hx, hb, hml, hown, hts⟩ (c_Jx4a65c_iterator_32c93 l hnt dC dI a0 l1 H.size ) (cwV 0 hts (goodIn_of _ (by decide +kernel)) rfl rfl rfl (by decide +kernel) ⟨Nat.le_of_ble_eq_true rfl, Nat.le_of_ble_eq_true rfl⟩) ⟨fun a U g mk q => by obtain ⟨q0, q1, qP, qK, qD, qZ⟩ := q; exact ⟨q0, q1, qP, va_K.moved (u := U) (U := U.calling g mk a) (Vm.Alike.refl U.vm) qK, qD, qZ.call⟩, va_recv hKc hPc (ci := 1) (q0 := 0) rfl rfl, fun U hU hW => ⟨rfl, by rw [hU], by rw [hU]; exact hPc, va_K.moved hW.alike hKc, hDc.weaken (fun _ _ _ _ => trivial), by rw [hU]; exact hZc.warm hW⟩⟩ rfl rfl hl.1 rfl (lv_room (Nat.le_of_ble_eq_true rfl)) dX10_manyNow_10 ⟨Nat.le_of_ble_eq_true rfl, Nat.le_of_ble_eq_true rfl⟩) hS (fun q _ h => hFc q h) hFc (fun u r_3 t H1 locs ht hvm hw hB hz1 hk1 hS => ?_)
  obtain ⟨hP1, hK1, hD1⟩ := hB
  rw [ht] at hP1
  have hK1 := va_K.moved hvm.symm hK1
  obtain ⟨hP, hD⟩ := va_join (wr := [(m0, .inr (12, [.int 0, .ref l1, .ref l2, .int 0, .int 0, .int 0, .long s0])), (l2, .inr (1, [.int 0, .ref a0, .int 0])), (q_1, .inl (cy_2, 5, .inl (fun _ => 0)))]) (w1 := [(r_3, .inr (0, [.int 0, .int (-1), .int 0, .ref l1])), (l1, .inr (1, [.int 0, .ref a0, .int 0]))]) hP hD [1] [0, 2, 3] rfl rfl (by decide) (by decide) hk1 hFc hP1 hD1
  have hK := (hK.sub (tys' := [(cy_2, .int)]) [0] rfl).app hK1
  generalize H1 = H at hP hS ⊢
  have hP : va_P (dC, dI) vwCl [(m0, .inr (12, [.int 0, .ref l1, .ref l2, .int 0, .int 0, .int 0, .long s0])), (l2, .inr (1, [.int 0, .ref a0, .int 0])), (q_1, .inl (cy_2, 5, .inl (fun _ => 0))), (r_3, .inr (0, [.int 0, .int (-1), .int 0, .ref l1])), (l1, .inr (1, [.int 0, .ref a0, .int 0]))] H := hP
  have hD : va_D A [(m0, .inr (12, [.int 0, .ref l1, .ref l2, .int 0, .int 0, .int 0, .long s0])), (l2, .inr (1, [.int 0, .ref a0, .int 0])), (q_1, .inl (cy_2, 5, .inl (fun _ => 0))), (r_3, .inr (0, [.int 0, .int (-1), .int 0, .ref l1])), (l1, .inr (1, [.int 0, .ref a0, .int 0]))] := hD
  have hK : va_K (dC, dI) vwCl [(cy_2, .int)] s := hK
  refine W.widen (k := 2) (n := 9) (Nat.le_of_ble_eq_true rfl) (Nat.le_of_ble_eq_true rfl) ?_
  refine lv_astore (lv' := [(4, .ref r_3), (3, .int 0), (2, .ref q_1), (0, .ref m0), (1, .int 3)]) hx hb dX10_manyNow_13 hl (by decide) rfl (fun ls hl => ?_)
  refine lv_aload hx hb dX10_manyNow_15 (lv_at hl 0 rfl) ?_
  have hPc := hP.sub (ws' := [(r_3, .inr (0, [.int 0, .int (-1), .int 0, .ref l1])), (l1, .inr (1, [.int 0, .ref a0, .int 0]))]) [3, 4] rfl
  have hDc := hD.sub (ws' := [(r_3, .inr (0, [.int 0, .int (-1), .int 0, .ref l1])), (l1, .inr (1, [.int 0, .ref a0, .int 0]))]) [3, 4] (by decide) rfl
  have hKc := hK.sub (tys' := []) [] rfl
  have hFc := va_free (wc := [(r_3, .inr (0, [.int 0, .int (-1), .int 0, .ref l1])), (l1, .inr (1, [.int 0, .ref a0, .int 0]))]) hD hS hA [3, 4] rfl
  have hZc := ((hZ.kept hS.2.1).narrow hFc)
  refine va_callFi (va_runF (As := []) (rest := []) (zz_at hK 0 rfl) ⟨hx, hb, hml, hown, hts⟩ (c_Jx35411_hasNext_aae02 l hnt dC dI a0 r_3 l1 H.size ) (va_cwF 0 hts (goodIn_of _ (by decide +kernel)) rfl rfl rfl hZ.fwN (by decide +kernel) ⟨Nat.le_of_ble_eq_true rfl, Nat.le_of_ble_eq_true rfl⟩) ⟨fun a U g mk q => by obtain ⟨q0, q1, qP, qK, qD, qZ⟩ := q; exact ⟨q0, q1, qP, va_K.moved (u := U) (U := U.calling g mk a) (Vm.Alike.refl U.vm) qK, qD, qZ.call⟩, va_recv hKc hPc (ci := 0) (q0 := 0) rfl rfl, fun U hU hW => ⟨rfl, by rw [hU], by rw [hU]; exact hPc, va_K.moved hW.alike hKc, hDc.weaken (fun _ _ _ _ => trivial), by rw [hU]; exact hZc.warm hW⟩⟩ rfl rfl hl.1 rfl (lv_room (Nat.le_of_ble_eq_true rfl)) dX10_manyNow_17 ⟨Nat.le_of_ble_eq_true rfl, Nat.le_of_ble_eq_true rfl⟩) hS (fun q _ h => hFc q h) hFc (fun r_4 u t H1 locs ht hvm hw hB hz1 hk1 hS => ?_)
  obtain ⟨hP1, hK1, hD1⟩ := hB
  rw [ht] at hP1
  have hK1 := va_K.moved hvm.symm hK1
  obtain ⟨hP, hD⟩ := va_join (wr := [(m0, .inr (12, [.int 0, .ref l1, .ref l2, .int 0, .int 0, .int 0, .long s0])), (l2, .inr (1, [.int 0, .ref a0, .int 0])), (q_1, .inl (cy_2, 5, .inl (fun _ => 0)))]) (w1 := [(r_3, .inr (0, [.int 0, .int (-1), .int 0, .ref l1])), (l1, .inr (1, [.int 0, .ref a0, .int 0]))]) hP hD [3, 4] [0, 1, 2] rfl rfl (by decide) (by decide) hk1 hFc hP1 hD1
  have hK := (hK.sub (tys' := [(cy_2, .int)]) [0] rfl).app hK1
  generalize H1 = H at hP hS ⊢
  have hP : va_P (dC, dI) vwCl [(m0, .inr (12, [.int 0, .ref l1, .ref l2, .int 0, .int 0, .int 0, .long s0])), (l2, .inr (1, [.int 0, .ref a0, .int 0])), (q_1, .inl (cy_2, 5, .inl (fun _ => 0))), (r_3, .inr (0, [.int 0, .int (-1), .int 0, .ref l1])), (l1, .inr (1, [.int 0, .ref a0, .int 0]))] H := hP
  have hD : va_D A [(m0, .inr (12, [.int 0, .ref l1, .ref l2, .int 0, .int 0, .int 0, .long s0])), (l2, .inr (1, [.int 0, .ref a0, .int 0])), (q_1, .inl (cy_2, 5, .inl (fun _ => 0))), (r_3, .inr (0, [.int 0, .int (-1), .int 0, .ref l1])), (l1, .inr (1, [.int 0, .ref a0, .int 0]))] := hD
  have hK : va_K (dC, dI) vwCl [(cy_2, .int)] s := hK
  refine W.widen (k := 2) (n := 9) (Nat.le_of_ble_eq_true rfl) (Nat.le_of_ble_eq_true rfl) ?_
  obtain rfl : r_4 = 0 := hw
  refine lv_if_eq (tgt := 61) hx hb dX10_manyNow_22 (by decide) (fun c_5 => ?_) (fun c_5 => ?_)
  rotate_left
  · (first | exact absurd c_5 (by decide) | exact absurd (by decide) c_5)
  refine lv_bipush (v := 11) hx hb dX10_manyNow_61 (by decide) ?_
  refine va_newa (atype := .int) (ty := .int) (N' := 11) (a0 := (11, .inl (fun _ => 0))) hx hb (hts (.arrayClass .int) (by decide +kernel)) rfl hK hP hD hS hA (fun _ => rfl) (by decide) (by decide) (Nat.le_of_ble_eq_true rfl) (Nat.le_of_ble_eq_true rfl) (Nat.le_of_ble_eq_true rfl) dX10_manyNow_63 (fun q_6 cy_7 H hK hP hD hS => ?_)
  have hK : va_K (dC, dI) vwCl [(cy_2, .int), (cy_7, .int)] s := hK
  have hP : va_P (dC, dI) vwCl [(m0, .inr (12, [.int 0, .ref l1, .ref l2, .int 0, .int 0, .int 0, .long s0])), (l2, .inr (1, [.int 0, .ref a0, .int 0])), (q_1, .inl (cy_2, 5, .inl (fun _ => 0))), (r_3, .inr (0, [.int 0, .int (-1), .int 0, .ref l1])), (l1, .inr (1, [.int 0, .ref a0, .int 0])), (q_6, .inl (cy_7, 11, .inl (fun _ => 0)))] H := hP
  have hD : va_D A [(m0, .inr (12, [.int 0, .ref l1, .ref l2, .int 0, .int 0, .int 0, .long s0])), (l2, .inr (1, [.int 0, .ref a0, .int 0])), (q_1, .inl (cy_2, 5, .inl (fun _ => 0))), (r_3, .inr (0, [.int 0, .int (-1), .int 0, .ref l1])), (l1, .inr (1, [.int 0, .ref a0, .int 0])), (q_6, .inl (cy_7, 11, .inl (fun _ => 0)))] := hD
  refine W.widen (k := 3) (n := 20) (Nat.le_of_ble_eq_true rfl) (Nat.le_of_ble_eq_true rfl) ?_
  refine lv_dup hx hb dX10_manyNow_65 rfl ?_
  refine lv_iconst (v := 0) hx hb dX10_manyNow_66 (by decide) ?_
  refine lv_aload_n hx hb dX10_manyNow_67 rfl (lv_at hl 3 rfl) ?_
  refine va_get (D := (dC, dI)) (ci := 12) (v := .ref l1) (C := RX10) (T := TX10) (N := 7) hx hb hts hiX10 hown hK hP 0 rfl rfl 1 (by decide) (hts (.fieldLink RX10 10 "HaltingaleModel" "machines" "Ljava/util/ArrayList;") (by decide +kernel)) (fun _ h9 => h9) rfl dX10_manyNow_68 ?_
  have hPc := hP.sub (ws' := [(l1, .inr (1, [.int 0, .ref a0, .int 0]))]) [4] rfl
  have hDc := hD.sub (ws' := [(l1, .inr (1, [.int 0, .ref a0, .int 0]))]) [4] (by decide) rfl
  have hKc := hK.sub (tys' := []) [] rfl
  have hFc := va_free (wc := [(l1, .inr (1, [.int 0, .ref a0, .int 0]))]) hD hS hA [4] rfl
  have hZc := ((hZ.kept hS.2.1).narrow hFc)
  refine va_calli (va_runV (As := []) (rest := [.int 0, .ref q_6, .ref q_6]) ⟨hx, hb, hml, hown, hts⟩ (c_Jx4a65c_size_8abf5 l hnt dC dI a0 l1 0 a0 0 H.size ) (cwV 0 hts (goodIn_of _ (by decide +kernel)) rfl rfl rfl (by decide +kernel) ⟨Nat.le_of_ble_eq_true rfl, Nat.le_of_ble_eq_true rfl⟩) ⟨fun a U g mk q => by obtain ⟨q0, q1, qP, qK, qD, qZ⟩ := q; exact ⟨q0, q1, qP, va_K.moved (u := U) (U := U.calling g mk a) (Vm.Alike.refl U.vm) qK, qD, qZ.call⟩, va_recv hKc hPc (ci := 1) (q0 := 0) rfl rfl, fun U hU hW => ⟨rfl, by rw [hU], by rw [hU]; exact hPc, va_K.moved hW.alike hKc, hDc.weaken (fun _ _ _ _ => trivial), by rw [hU]; exact hZc.warm hW⟩⟩ rfl rfl hl.1 rfl (lv_room (Nat.le_of_ble_eq_true rfl)) dX10_manyNow_71 ⟨Nat.le_of_ble_eq_true rfl, Nat.le_of_ble_eq_true rfl⟩) hS (fun q _ h => hFc q h) hFc (fun r_8 u t H1 locs ht hvm hw hB hz1 hk1 hS => ?_)
  obtain ⟨hP1, hK1, hD1⟩ := hB
  rw [ht] at hP1
  have hK1 := va_K.moved hvm.symm hK1
  obtain ⟨hP, hD⟩ := va_join (wr := [(m0, .inr (12, [.int 0, .ref l1, .ref l2, .int 0, .int 0, .int 0, .long s0])), (l2, .inr (1, [.int 0, .ref a0, .int 0])), (q_1, .inl (cy_2, 5, .inl (fun _ => 0))), (r_3, .inr (0, [.int 0, .int (-1), .int 0, .ref l1])), (q_6, .inl (cy_7, 11, .inl (fun _ => 0)))]) (w1 := [(l1, .inr (1, [.int 0, .ref a0, .int 0]))]) hP hD [4] [0, 1, 2, 3, 5] rfl rfl (by decide) (by decide) hk1 hFc hP1 hD1
  have hK := (hK.sub (tys' := [(cy_2, .int), (cy_7, .int)]) [0, 1] rfl).app hK1
  generalize H1 = H at hP hS ⊢
  have hP : va_P (dC, dI) vwCl [(m0, .inr (12, [.int 0, .ref l1, .ref l2, .int 0, .int 0, .int 0, .long s0])), (l2, .inr (1, [.int 0, .ref a0, .int 0])), (q_1, .inl (cy_2, 5, .inl (fun _ => 0))), (r_3, .inr (0, [.int 0, .int (-1), .int 0, .ref l1])), (q_6, .inl (cy_7, 11, .inl (fun _ => 0))), (l1, .inr (1, [.int 0, .ref a0, .int 0]))] H := hP
  have hD : va_D A [(m0, .inr (12, [.int 0, .ref l1, .ref l2, .int 0, .int 0, .int 0, .long s0])), (l2, .inr (1, [.int 0, .ref a0, .int 0])), (q_1, .inl (cy_2, 5, .inl (fun _ => 0))), (r_3, .inr (0, [.int 0, .int (-1), .int 0, .ref l1])), (q_6, .inl (cy_7, 11, .inl (fun _ => 0))), (l1, .inr (1, [.int 0, .ref a0, .int 0]))] := hD
  have hK : va_K (dC, dI) vwCl [(cy_2, .int), (cy_7, .int)] s := hK
  refine W.widen (k := 3) (n := 20) (Nat.le_of_ble_eq_true rfl) (Nat.le_of_ble_eq_true rfl) ?_
  obtain rfl : r_8 = 0 := hw
  refine va_iast hx hb hK hP hD hS 4 1 rfl rfl (by unfold vp_in; decide) dX10_manyNow_74 (fun H locs hP hD hS => ?_)
  have hP : va_P (dC, dI) vwCl [(m0, .inr (12, [.int 0, .ref l1, .ref l2, .int 0, .int 0, .int 0, .long s0])), (l2, .inr (1, [.int 0, .ref a0, .int 0])), (q_1, .inl (cy_2, 5, .inl (fun _ => 0))), (r_3, .inr (0, [.int 0, .int (-1), .int 0, .ref l1])), (q_6, .inl (cy_7, 11, .inl (upd (fun _ => 0) ((0 : Int32).toNatClampNeg) 0))), (l1, .inr (1, [.int 0, .ref a0, .int 0]))] H := hP
  have hD : va_D A [(m0, .inr (12, [.int 0, .ref l1, .ref l2, .int 0, .int 0, .int 0, .long s0])), (l2, .inr (1, [.int 0, .ref a0, .int 0])), (q_1, .inl (cy_2, 5, .inl (fun _ => 0))), (r_3, .inr (0, [.int 0, .int (-1), .int 0, .ref l1])), (q_6, .inl (cy_7, 11, .inl (upd (fun _ => 0) ((0 : Int32).toNatClampNeg) 0))), (l1, .inr (1, [.int 0, .ref a0, .int 0]))] := hD
  refine lv_dup hx hb dX10_manyNow_75 rfl ?_
  refine lv_iconst (v := 1) hx hb dX10_manyNow_76 (by decide) ?_
  refine lv_aload_n hx hb dX10_manyNow_77 rfl (lv_at hl 2 rfl) ?_
  refine lv_iconst (v := 0) hx hb dX10_manyNow_78 (by decide) ?_
  refine va_iald hx hb hK hP 2 0 rfl rfl (by unfold vp_in; decide) dX10_manyNow_79 ?_
  refine lv_topi (fun x_10 ex_10 => ?_)
  obtain rfl : x_10 = 0 := ex_10.trans (by decide +kernel)
  refine va_iast hx hb hK hP hD hS 4 1 rfl rfl (by unfold vp_in; decide) dX10_manyNow_80 (fun H locs hP hD hS => ?_)
  have hP : va_P (dC, dI) vwCl [(m0, .inr (12, [.int 0, .ref l1, .ref l2, .int 0, .int 0, .int 0, .long s0])), (l2, .inr (1, [.int 0, .ref a0, .int 0])), (q_1, .inl (cy_2, 5, .inl (fun _ => 0))), (r_3, .inr (0, [.int 0, .int (-1), .int 0, .ref l1])), (q_6, .inl (cy_7, 11, .inl (upd (upd (fun _ => 0) ((0 : Int32).toNatClampNeg) 0) ((1 : Int32).toNatClampNeg) 0))), (l1, .inr (1, [.int 0, .ref a0, .int 0]))] H := hP
  have hD : va_D A [(m0, .inr (12, [.int 0, .ref l1, .ref l2, .int 0, .int 0, .int 0, .long s0])), (l2, .inr (1, [.int 0, .ref a0, .int 0])), (q_1, .inl (cy_2, 5, .inl (fun _ => 0))), (r_3, .inr (0, [.int 0, .int (-1), .int 0, .ref l1])), (q_6, .inl (cy_7, 11, .inl (upd (upd (fun _ => 0) ((0 : Int32).toNatClampNeg) 0) ((1 : Int32).toNatClampNeg) 0))), (l1, .inr (1, [.int 0, .ref a0, .int 0]))] := hD
  refine lv_dup hx hb dX10_manyNow_81 rfl ?_
  refine lv_iconst (v := 2) hx hb dX10_manyNow_82 (by decide) ?_
  refine lv_aload_n hx hb dX10_manyNow_83 rfl (lv_at hl 2 rfl) ?_
  refine lv_iconst (v := 1) hx hb dX10_manyNow_84 (by decide) ?_
  refine va_iald hx hb hK hP 2 0 rfl rfl (by unfold vp_in; decide) dX10_manyNow_85 ?_
  refine lv_topi (fun x_12 ex_12 => ?_)
  obtain rfl : x_12 = 0 := ex_12.trans (by decide +kernel)
  refine va_iast hx hb hK hP hD hS 4 1 rfl rfl (by unfold vp_in; decide) dX10_manyNow_86 (fun H locs hP hD hS => ?_)
  have hP : va_P (dC, dI) vwCl [(m0, .inr (12, [.int 0, .ref l1, .ref l2, .int 0, .int 0, .int 0, .long s0])), (l2, .inr (1, [.int 0, .ref a0, .int 0])), (q_1, .inl (cy_2, 5, .inl (fun _ => 0))), (r_3, .inr (0, [.int 0, .int (-1), .int 0, .ref l1])), (q_6, .inl (cy_7, 11, .inl (upd (upd (upd (fun _ => 0) ((0 : Int32).toNatClampNeg) 0) ((1 : Int32).toNatClampNeg) 0) ((2 : Int32).toNatClampNeg) 0))), (l1, .inr (1, [.int 0, .ref a0, .int 0]))] H := hP
  have hD : va_D A [(m0, .inr (12, [.int 0, .ref l1, .ref l2, .int 0, .int 0, .int 0, .long s0])), (l2, .inr (1, [.int 0, .ref a0, .int 0])), (q_1, .inl (cy_2, 5, .inl (fun _ => 0))), (r_3, .inr (0, [.int 0, .int (-1), .int 0, .ref l1])), (q_6, .inl (cy_7, 11, .inl (upd (upd (upd (fun _ => 0) ((0 : Int32).toNatClampNeg) 0) ((1 : Int32).toNatClampNeg) 0) ((2 : Int32).toNatClampNeg) 0))), (l1, .inr (1, [.int 0, .ref a0, .int 0]))] := hD
  refine lv_dup hx hb dX10_manyNow_87 rfl ?_
  refine lv_iconst (v := 3) hx hb dX10_manyNow_88 (by decide) ?_
  refine lv_aload_n hx hb dX10_manyNow_89 rfl (lv_at hl 2 rfl) ?_
  refine lv_iconst (v := 2) hx hb dX10_manyNow_90 (by decide) ?_
  refine va_iald hx hb hK hP 2 0 rfl rfl (by unfold vp_in; decide) dX10_manyNow_91 ?_
  refine lv_topi (fun x_14 ex_14 => ?_)
  obtain rfl : x_14 = 0 := ex_14.trans (by decide +kernel)
  refine va_iast hx hb hK hP hD hS 4 1 rfl rfl (by unfold vp_in; decide) dX10_manyNow_92 (fun H locs hP hD hS => ?_)
  have hP : va_P (dC, dI) vwCl [(m0, .inr (12, [.int 0, .ref l1, .ref l2, .int 0, .int 0, .int 0, .long s0])), (l2, .inr (1, [.int 0, .ref a0, .int 0])), (q_1, .inl (cy_2, 5, .inl (fun _ => 0))), (r_3, .inr (0, [.int 0, .int (-1), .int 0, .ref l1])), (q_6, .inl (cy_7, 11, .inl (upd (upd (upd (upd (fun _ => 0) ((0 : Int32).toNatClampNeg) 0) ((1 : Int32).toNatClampNeg) 0) ((2 : Int32).toNatClampNeg) 0) ((3 : Int32).toNatClampNeg) 0))), (l1, .inr (1, [.int 0, .ref a0, .int 0]))] H := hP
  have hD : va_D A [(m0, .inr (12, [.int 0, .ref l1, .ref l2, .int 0, .int 0, .int 0, .long s0])), (l2, .inr (1, [.int 0, .ref a0, .int 0])), (q_1, .inl (cy_2, 5, .inl (fun _ => 0))), (r_3, .inr (0, [.int 0, .int (-1), .int 0, .ref l1])), (q_6, .inl (cy_7, 11, .inl (upd (upd (upd (upd (fun _ => 0) ((0 : Int32).toNatClampNeg) 0) ((1 : Int32).toNatClampNeg) 0) ((2 : Int32).toNatClampNeg) 0) ((3 : Int32).toNatClampNeg) 0))), (l1, .inr (1, [.int 0, .ref a0, .int 0]))] := hD
  refine lv_dup hx hb dX10_manyNow_93 rfl ?_
  refine lv_iconst (v := 4) hx hb dX10_manyNow_94 (by decide) ?_
  refine lv_aload_n hx hb dX10_manyNow_95 rfl (lv_at hl 2 rfl) ?_
  refine lv_iconst (v := 3) hx hb dX10_manyNow_96 (by decide) ?_
  refine va_iald hx hb hK hP 2 0 rfl rfl (by unfold vp_in; decide) dX10_manyNow_97 ?_
  refine lv_topi (fun x_16 ex_16 => ?_)
  obtain rfl : x_16 = 0 := ex_16.trans (by decide +kernel)
  refine va_iast hx hb hK hP hD hS 4 1 rfl rfl (by unfold vp_in; decide) dX10_manyNow_98 (fun H locs hP hD hS => ?_)
  have hP : va_P (dC, dI) vwCl [(m0, .inr (12, [.int 0, .ref l1, .ref l2, .int 0, .int 0, .int 0, .long s0])), (l2, .inr (1, [.int 0, .ref a0, .int 0])), (q_1, .inl (cy_2, 5, .inl (fun _ => 0))), (r_3, .inr (0, [.int 0, .int (-1), .int 0, .ref l1])), (q_6, .inl (cy_7, 11, .inl (upd (upd (upd (upd (upd (fun _ => 0) ((0 : Int32).toNatClampNeg) 0) ((1 : Int32).toNatClampNeg) 0) ((2 : Int32).toNatClampNeg) 0) ((3 : Int32).toNatClampNeg) 0) ((4 : Int32).toNatClampNeg) 0))), (l1, .inr (1, [.int 0, .ref a0, .int 0]))] H := hP
  have hD : va_D A [(m0, .inr (12, [.int 0, .ref l1, .ref l2, .int 0, .int 0, .int 0, .long s0])), (l2, .inr (1, [.int 0, .ref a0, .int 0])), (q_1, .inl (cy_2, 5, .inl (fun _ => 0))), (r_3, .inr (0, [.int 0, .int (-1), .int 0, .ref l1])), (q_6, .inl (cy_7, 11, .inl (upd (upd (upd (upd (upd (fun _ => 0) ((0 : Int32).toNatClampNeg) 0) ((1 : Int32).toNatClampNeg) 0) ((2 : Int32).toNatClampNeg) 0) ((3 : Int32).toNatClampNeg) 0) ((4 : Int32).toNatClampNeg) 0))), (l1, .inr (1, [.int 0, .ref a0, .int 0]))] := hD
  refine lv_dup hx hb dX10_manyNow_99 rfl ?_
  refine lv_iconst (v := 5) hx hb dX10_manyNow_100 (by decide) ?_
  refine lv_aload_n hx hb dX10_manyNow_101 rfl (lv_at hl 2 rfl) ?_
  refine lv_iconst (v := 4) hx hb dX10_manyNow_102 (by decide) ?_
  refine va_iald hx hb hK hP 2 0 rfl rfl (by unfold vp_in; decide) dX10_manyNow_103 ?_
  refine lv_topi (fun x_18 ex_18 => ?_)
  obtain rfl : x_18 = 0 := ex_18.trans (by decide +kernel)
  refine va_iast hx hb hK hP hD hS 4 1 rfl rfl (by unfold vp_in; decide) dX10_manyNow_104 (fun H locs hP hD hS => ?_)
  have hP : va_P (dC, dI) vwCl [(m0, .inr (12, [.int 0, .ref l1, .ref l2, .int 0, .int 0, .int 0, .long s0])), (l2, .inr (1, [.int 0, .ref a0, .int 0])), (q_1, .inl (cy_2, 5, .inl (fun _ => 0))), (r_3, .inr (0, [.int 0, .int (-1), .int 0, .ref l1])), (q_6, .inl (cy_7, 11, .inl (upd (upd (upd (upd (upd (upd (fun _ => 0) ((0 : Int32).toNatClampNeg) 0) ((1 : Int32).toNatClampNeg) 0) ((2 : Int32).toNatClampNeg) 0) ((3 : Int32).toNatClampNeg) 0) ((4 : Int32).toNatClampNeg) 0) ((5 : Int32).toNatClampNeg) 0))), (l1, .inr (1, [.int 0, .ref a0, .int 0]))] H := hP
  have hD : va_D A [(m0, .inr (12, [.int 0, .ref l1, .ref l2, .int 0, .int 0, .int 0, .long s0])), (l2, .inr (1, [.int 0, .ref a0, .int 0])), (q_1, .inl (cy_2, 5, .inl (fun _ => 0))), (r_3, .inr (0, [.int 0, .int (-1), .int 0, .ref l1])), (q_6, .inl (cy_7, 11, .inl (upd (upd (upd (upd (upd (upd (fun _ => 0) ((0 : Int32).toNatClampNeg) 0) ((1 : Int32).toNatClampNeg) 0) ((2 : Int32).toNatClampNeg) 0) ((3 : Int32).toNatClampNeg) 0) ((4 : Int32).toNatClampNeg) 0) ((5 : Int32).toNatClampNeg) 0))), (l1, .inr (1, [.int 0, .ref a0, .int 0]))] := hD
  refine lv_dup hx hb dX10_manyNow_105 rfl ?_
  refine lv_bipush (v := 6) hx hb dX10_manyNow_106 (by decide) ?_
  refine lv_aload_n hx hb dX10_manyNow_108 rfl (lv_at hl 3 rfl) ?_
  refine va_get (D := (dC, dI)) (ci := 12) (v := .ref l2) (C := RX10) (T := TX10) (N := 7) hx hb hts hiX10 hown hK hP 0 rfl rfl 2 (by decide) (hts (.fieldLink RX10 16 "HaltingaleModel" "tags" "Ljava/util/ArrayList;") (by decide +kernel)) (fun _ h9 => h9) rfl dX10_manyNow_109 ?_
  have hPc := hP.sub (ws' := [(l2, .inr (1, [.int 0, .ref a0, .int 0]))]) [1] rfl
  have hDc := hD.sub (ws' := [(l2, .inr (1, [.int 0, .ref a0, .int 0]))]) [1] (by decide) rfl
  have hKc := hK.sub (tys' := []) [] rfl
  have hFc := va_free (wc := [(l2, .inr (1, [.int 0, .ref a0, .int 0]))]) hD hS hA [1] rfl
  have hZc := ((hZ.kept hS.2.1).narrow hFc)
  refine va_calli (va_runV (As := []) (rest := [.int 6, .ref q_6, .ref q_6]) ⟨hx, hb, hml, hown, hts⟩ (c_Jx4a65c_size_8abf5 l hnt dC dI a0 l2 0 a0 0 H.size ) (cwV 0 hts (goodIn_of _ (by decide +kernel)) rfl rfl rfl (by decide +kernel) ⟨Nat.le_of_ble_eq_true rfl, Nat.le_of_ble_eq_true rfl⟩) ⟨fun a U g mk q => by obtain ⟨q0, q1, qP, qK, qD, qZ⟩ := q; exact ⟨q0, q1, qP, va_K.moved (u := U) (U := U.calling g mk a) (Vm.Alike.refl U.vm) qK, qD, qZ.call⟩, va_recv hKc hPc (ci := 1) (q0 := 0) rfl rfl, fun U hU hW => ⟨rfl, by rw [hU], by rw [hU]; exact hPc, va_K.moved hW.alike hKc, hDc.weaken (fun _ _ _ _ => trivial), by rw [hU]; exact hZc.warm hW⟩⟩ rfl rfl hl.1 rfl (lv_room (Nat.le_of_ble_eq_true rfl)) dX10_manyNow_112 ⟨Nat.le_of_ble_eq_true rfl, Nat.le_of_ble_eq_true rfl⟩) hS (fun q _ h => hFc q h) hFc (fun r_20 u t H1 locs ht hvm hw hB hz1 hk1 hS => ?_)
  obtain ⟨hP1, hK1, hD1⟩ := hB
  rw [ht] at hP1
  have hK1 := va_K.moved hvm.symm hK1
  obtain ⟨hP, hD⟩ := va_join (wr := [(m0, .inr (12, [.int 0, .ref l1, .ref l2, .int 0, .int 0, .int 0, .long s0])), (q_1, .inl (cy_2, 5, .inl (fun _ => 0))), (r_3, .inr (0, [.int 0, .int (-1), .int 0, .ref l1])), (q_6, .inl (cy_7, 11, .inl (upd (upd (upd (upd (upd (upd (fun _ => 0) ((0 : Int32).toNatClampNeg) 0) ((1 : Int32).toNatClampNeg) 0) ((2 : Int32).toNatClampNeg) 0) ((3 : Int32).toNatClampNeg) 0) ((4 : Int32).toNatClampNeg) 0) ((5 : Int32).toNatClampNeg) 0))), (l1, .inr (1, [.int 0, .ref a0, .int 0]))]) (w1 := [(l2, .inr (1, [.int 0, .ref a0, .int 0]))]) hP hD [1] [0, 2, 3, 4, 5] rfl rfl (by decide) (by decide) hk1 hFc hP1 hD1
  have hK := (hK.sub (tys' := [(cy_2, .int), (cy_7, .int)]) [0, 1] rfl).app hK1
  generalize H1 = H at hP hS ⊢
  have hP : va_P (dC, dI) vwCl [(m0, .inr (12, [.int 0, .ref l1, .ref l2, .int 0, .int 0, .int 0, .long s0])), (q_1, .inl (cy_2, 5, .inl (fun _ => 0))), (r_3, .inr (0, [.int 0, .int (-1), .int 0, .ref l1])), (q_6, .inl (cy_7, 11, .inl (upd (upd (upd (upd (upd (upd (fun _ => 0) ((0 : Int32).toNatClampNeg) 0) ((1 : Int32).toNatClampNeg) 0) ((2 : Int32).toNatClampNeg) 0) ((3 : Int32).toNatClampNeg) 0) ((4 : Int32).toNatClampNeg) 0) ((5 : Int32).toNatClampNeg) 0))), (l1, .inr (1, [.int 0, .ref a0, .int 0])), (l2, .inr (1, [.int 0, .ref a0, .int 0]))] H := hP
  have hD : va_D A [(m0, .inr (12, [.int 0, .ref l1, .ref l2, .int 0, .int 0, .int 0, .long s0])), (q_1, .inl (cy_2, 5, .inl (fun _ => 0))), (r_3, .inr (0, [.int 0, .int (-1), .int 0, .ref l1])), (q_6, .inl (cy_7, 11, .inl (upd (upd (upd (upd (upd (upd (fun _ => 0) ((0 : Int32).toNatClampNeg) 0) ((1 : Int32).toNatClampNeg) 0) ((2 : Int32).toNatClampNeg) 0) ((3 : Int32).toNatClampNeg) 0) ((4 : Int32).toNatClampNeg) 0) ((5 : Int32).toNatClampNeg) 0))), (l1, .inr (1, [.int 0, .ref a0, .int 0])), (l2, .inr (1, [.int 0, .ref a0, .int 0]))] := hD
  have hK : va_K (dC, dI) vwCl [(cy_2, .int), (cy_7, .int)] s := hK
  refine W.widen (k := 3) (n := 20) (Nat.le_of_ble_eq_true rfl) (Nat.le_of_ble_eq_true rfl) ?_
  obtain rfl : r_20 = 0 := hw
  refine va_iast hx hb hK hP hD hS 3 1 rfl rfl (by unfold vp_in; decide) dX10_manyNow_115 (fun H locs hP hD hS => ?_)
  have hP : va_P (dC, dI) vwCl [(m0, .inr (12, [.int 0, .ref l1, .ref l2, .int 0, .int 0, .int 0, .long s0])), (q_1, .inl (cy_2, 5, .inl (fun _ => 0))), (r_3, .inr (0, [.int 0, .int (-1), .int 0, .ref l1])), (q_6, .inl (cy_7, 11, .inl (upd (upd (upd (upd (upd (upd (upd (fun _ => 0) ((0 : Int32).toNatClampNeg) 0) ((1 : Int32).toNatClampNeg) 0) ((2 : Int32).toNatClampNeg) 0) ((3 : Int32).toNatClampNeg) 0) ((4 : Int32).toNatClampNeg) 0) ((5 : Int32).toNatClampNeg) 0) ((6 : Int32).toNatClampNeg) 0))), (l1, .inr (1, [.int 0, .ref a0, .int 0])), (l2, .inr (1, [.int 0, .ref a0, .int 0]))] H := hP
  have hD : va_D A [(m0, .inr (12, [.int 0, .ref l1, .ref l2, .int 0, .int 0, .int 0, .long s0])), (q_1, .inl (cy_2, 5, .inl (fun _ => 0))), (r_3, .inr (0, [.int 0, .int (-1), .int 0, .ref l1])), (q_6, .inl (cy_7, 11, .inl (upd (upd (upd (upd (upd (upd (upd (fun _ => 0) ((0 : Int32).toNatClampNeg) 0) ((1 : Int32).toNatClampNeg) 0) ((2 : Int32).toNatClampNeg) 0) ((3 : Int32).toNatClampNeg) 0) ((4 : Int32).toNatClampNeg) 0) ((5 : Int32).toNatClampNeg) 0) ((6 : Int32).toNatClampNeg) 0))), (l1, .inr (1, [.int 0, .ref a0, .int 0])), (l2, .inr (1, [.int 0, .ref a0, .int 0]))] := hD
  refine lv_dup hx hb dX10_manyNow_116 rfl ?_
  refine lv_bipush (v := 7) hx hb dX10_manyNow_117 (by decide) ?_
  refine lv_aload_n hx hb dX10_manyNow_119 rfl (lv_at hl 3 rfl) ?_
  refine va_get (D := (dC, dI)) (ci := 12) (v := .int 0) (C := RX10) (T := TX10) (N := 7) hx hb hts hiX10 hown hK hP 0 rfl rfl 3 (by decide) (hts (.fieldLink RX10 191 "HaltingaleModel" "given" "I") (by decide +kernel)) (fun _ h9 => h9) rfl dX10_manyNow_120 ?_
  refine va_iast hx hb hK hP hD hS 3 1 rfl rfl (by unfold vp_in; decide) dX10_manyNow_123 (fun H locs hP hD hS => ?_)
  have hP : va_P (dC, dI) vwCl [(m0, .inr (12, [.int 0, .ref l1, .ref l2, .int 0, .int 0, .int 0, .long s0])), (q_1, .inl (cy_2, 5, .inl (fun _ => 0))), (r_3, .inr (0, [.int 0, .int (-1), .int 0, .ref l1])), (q_6, .inl (cy_7, 11, .inl (upd (upd (upd (upd (upd (upd (upd (upd (fun _ => 0) ((0 : Int32).toNatClampNeg) 0) ((1 : Int32).toNatClampNeg) 0) ((2 : Int32).toNatClampNeg) 0) ((3 : Int32).toNatClampNeg) 0) ((4 : Int32).toNatClampNeg) 0) ((5 : Int32).toNatClampNeg) 0) ((6 : Int32).toNatClampNeg) 0) ((7 : Int32).toNatClampNeg) 0))), (l1, .inr (1, [.int 0, .ref a0, .int 0])), (l2, .inr (1, [.int 0, .ref a0, .int 0]))] H := hP
  have hD : va_D A [(m0, .inr (12, [.int 0, .ref l1, .ref l2, .int 0, .int 0, .int 0, .long s0])), (q_1, .inl (cy_2, 5, .inl (fun _ => 0))), (r_3, .inr (0, [.int 0, .int (-1), .int 0, .ref l1])), (q_6, .inl (cy_7, 11, .inl (upd (upd (upd (upd (upd (upd (upd (upd (fun _ => 0) ((0 : Int32).toNatClampNeg) 0) ((1 : Int32).toNatClampNeg) 0) ((2 : Int32).toNatClampNeg) 0) ((3 : Int32).toNatClampNeg) 0) ((4 : Int32).toNatClampNeg) 0) ((5 : Int32).toNatClampNeg) 0) ((6 : Int32).toNatClampNeg) 0) ((7 : Int32).toNatClampNeg) 0))), (l1, .inr (1, [.int 0, .ref a0, .int 0])), (l2, .inr (1, [.int 0, .ref a0, .int 0]))] := hD
  refine lv_dup hx hb dX10_manyNow_124 rfl ?_
  refine lv_bipush (v := 8) hx hb dX10_manyNow_125 (by decide) ?_
  refine lv_aload_n hx hb dX10_manyNow_127 rfl (lv_at hl 3 rfl) ?_
  refine va_get (D := (dC, dI)) (ci := 12) (v := .int 0) (C := RX10) (T := TX10) (N := 7) hx hb hts hiX10 hown hK hP 0 rfl rfl 4 (by decide) (hts (.fieldLink RX10 194 "HaltingaleModel" "taken" "I") (by decide +kernel)) (fun _ h9 => h9) rfl dX10_manyNow_128 ?_
  refine va_iast hx hb hK hP hD hS 3 1 rfl rfl (by unfold vp_in; decide) dX10_manyNow_131 (fun H locs hP hD hS => ?_)
  have hP : va_P (dC, dI) vwCl [(m0, .inr (12, [.int 0, .ref l1, .ref l2, .int 0, .int 0, .int 0, .long s0])), (q_1, .inl (cy_2, 5, .inl (fun _ => 0))), (r_3, .inr (0, [.int 0, .int (-1), .int 0, .ref l1])), (q_6, .inl (cy_7, 11, .inl (upd (upd (upd (upd (upd (upd (upd (upd (upd (fun _ => 0) ((0 : Int32).toNatClampNeg) 0) ((1 : Int32).toNatClampNeg) 0) ((2 : Int32).toNatClampNeg) 0) ((3 : Int32).toNatClampNeg) 0) ((4 : Int32).toNatClampNeg) 0) ((5 : Int32).toNatClampNeg) 0) ((6 : Int32).toNatClampNeg) 0) ((7 : Int32).toNatClampNeg) 0) ((8 : Int32).toNatClampNeg) 0))), (l1, .inr (1, [.int 0, .ref a0, .int 0])), (l2, .inr (1, [.int 0, .ref a0, .int 0]))] H := hP
  have hD : va_D A [(m0, .inr (12, [.int 0, .ref l1, .ref l2, .int 0, .int 0, .int 0, .long s0])), (q_1, .inl (cy_2, 5, .inl (fun _ => 0))), (r_3, .inr (0, [.int 0, .int (-1), .int 0, .ref l1])), (q_6, .inl (cy_7, 11, .inl (upd (upd (upd (upd (upd (upd (upd (upd (upd (fun _ => 0) ((0 : Int32).toNatClampNeg) 0) ((1 : Int32).toNatClampNeg) 0) ((2 : Int32).toNatClampNeg) 0) ((3 : Int32).toNatClampNeg) 0) ((4 : Int32).toNatClampNeg) 0) ((5 : Int32).toNatClampNeg) 0) ((6 : Int32).toNatClampNeg) 0) ((7 : Int32).toNatClampNeg) 0) ((8 : Int32).toNatClampNeg) 0))), (l1, .inr (1, [.int 0, .ref a0, .int 0])), (l2, .inr (1, [.int 0, .ref a0, .int 0]))] := hD
  refine lv_dup hx hb dX10_manyNow_132 rfl ?_
  refine lv_bipush (v := 9) hx hb dX10_manyNow_133 (by decide) ?_
  refine lv_aload_n hx hb dX10_manyNow_135 rfl (lv_at hl 3 rfl) ?_
  refine va_get (D := (dC, dI)) (ci := 12) (v := .int 0) (C := RX10) (T := TX10) (N := 7) hx hb hts hiX10 hown hK hP 0 rfl rfl 5 (by decide) (hts (.fieldLink RX10 67 "HaltingaleModel" "back" "I") (by decide +kernel)) (fun _ h9 => h9) rfl dX10_manyNow_136 ?_
  refine va_iast hx hb hK hP hD hS 3 1 rfl rfl (by unfold vp_in; decide) dX10_manyNow_139 (fun H locs hP hD hS => ?_)
  have hP : va_P (dC, dI) vwCl [(m0, .inr (12, [.int 0, .ref l1, .ref l2, .int 0, .int 0, .int 0, .long s0])), (q_1, .inl (cy_2, 5, .inl (fun _ => 0))), (r_3, .inr (0, [.int 0, .int (-1), .int 0, .ref l1])), (q_6, .inl (cy_7, 11, .inl (upd (upd (upd (upd (upd (upd (upd (upd (upd (upd (fun _ => 0) ((0 : Int32).toNatClampNeg) 0) ((1 : Int32).toNatClampNeg) 0) ((2 : Int32).toNatClampNeg) 0) ((3 : Int32).toNatClampNeg) 0) ((4 : Int32).toNatClampNeg) 0) ((5 : Int32).toNatClampNeg) 0) ((6 : Int32).toNatClampNeg) 0) ((7 : Int32).toNatClampNeg) 0) ((8 : Int32).toNatClampNeg) 0) ((9 : Int32).toNatClampNeg) 0))), (l1, .inr (1, [.int 0, .ref a0, .int 0])), (l2, .inr (1, [.int 0, .ref a0, .int 0]))] H := hP
  have hD : va_D A [(m0, .inr (12, [.int 0, .ref l1, .ref l2, .int 0, .int 0, .int 0, .long s0])), (q_1, .inl (cy_2, 5, .inl (fun _ => 0))), (r_3, .inr (0, [.int 0, .int (-1), .int 0, .ref l1])), (q_6, .inl (cy_7, 11, .inl (upd (upd (upd (upd (upd (upd (upd (upd (upd (upd (fun _ => 0) ((0 : Int32).toNatClampNeg) 0) ((1 : Int32).toNatClampNeg) 0) ((2 : Int32).toNatClampNeg) 0) ((3 : Int32).toNatClampNeg) 0) ((4 : Int32).toNatClampNeg) 0) ((5 : Int32).toNatClampNeg) 0) ((6 : Int32).toNatClampNeg) 0) ((7 : Int32).toNatClampNeg) 0) ((8 : Int32).toNatClampNeg) 0) ((9 : Int32).toNatClampNeg) 0))), (l1, .inr (1, [.int 0, .ref a0, .int 0])), (l2, .inr (1, [.int 0, .ref a0, .int 0]))] := hD
  refine lv_dup hx hb dX10_manyNow_140 rfl ?_
  refine lv_bipush (v := 10) hx hb dX10_manyNow_141 (by decide) ?_
  refine lv_iload_n hx hb dX10_manyNow_143 rfl (lv_at hl 1 rfl) ?_
  refine va_iast hx hb hK hP hD hS 3 1 rfl rfl (by unfold vp_in; decide) dX10_manyNow_144 (fun H locs hP hD hS => ?_)
  have hP : va_P (dC, dI) vwCl [(m0, .inr (12, [.int 0, .ref l1, .ref l2, .int 0, .int 0, .int 0, .long s0])), (q_1, .inl (cy_2, 5, .inl (fun _ => 0))), (r_3, .inr (0, [.int 0, .int (-1), .int 0, .ref l1])), (q_6, .inl (cy_7, 11, .inl (upd (upd (upd (upd (upd (upd (upd (upd (upd (upd (upd (fun _ => 0) ((0 : Int32).toNatClampNeg) 0) ((1 : Int32).toNatClampNeg) 0) ((2 : Int32).toNatClampNeg) 0) ((3 : Int32).toNatClampNeg) 0) ((4 : Int32).toNatClampNeg) 0) ((5 : Int32).toNatClampNeg) 0) ((6 : Int32).toNatClampNeg) 0) ((7 : Int32).toNatClampNeg) 0) ((8 : Int32).toNatClampNeg) 0) ((9 : Int32).toNatClampNeg) 0) ((10 : Int32).toNatClampNeg) 0))), (l1, .inr (1, [.int 0, .ref a0, .int 0])), (l2, .inr (1, [.int 0, .ref a0, .int 0]))] H := hP
  have hD : va_D A [(m0, .inr (12, [.int 0, .ref l1, .ref l2, .int 0, .int 0, .int 0, .long s0])), (q_1, .inl (cy_2, 5, .inl (fun _ => 0))), (r_3, .inr (0, [.int 0, .int (-1), .int 0, .ref l1])), (q_6, .inl (cy_7, 11, .inl (upd (upd (upd (upd (upd (upd (upd (upd (upd (upd (upd (fun _ => 0) ((0 : Int32).toNatClampNeg) 0) ((1 : Int32).toNatClampNeg) 0) ((2 : Int32).toNatClampNeg) 0) ((3 : Int32).toNatClampNeg) 0) ((4 : Int32).toNatClampNeg) 0) ((5 : Int32).toNatClampNeg) 0) ((6 : Int32).toNatClampNeg) 0) ((7 : Int32).toNatClampNeg) 0) ((8 : Int32).toNatClampNeg) 0) ((9 : Int32).toNatClampNeg) 0) ((10 : Int32).toNatClampNeg) 0))), (l1, .inr (1, [.int 0, .ref a0, .int 0])), (l2, .inr (1, [.int 0, .ref a0, .int 0]))] := hD
  refine lv_astore (lv' := [(4, .ref q_6), (3, .int 0), (2, .ref q_1), (0, .ref m0), (1, .int 3)]) hx hb dX10_manyNow_145 hl (by decide) rfl (fun ls hl => ?_)
  refine lv_aload hx hb dX10_manyNow_147 (lv_at hl 0 rfl) ?_
  refine lv_iload_n hx hb dX10_manyNow_149 rfl (lv_at hl 4 rfl) ?_
  refine va_iald hx hb hK hP 3 1 rfl rfl (by unfold vp_in; decide) dX10_manyNow_150 ?_
  refine lv_topi (fun x_26 ex_26 => ?_)
  obtain rfl : x_26 = 0 := ex_26.trans (by decide +kernel)
  have hP9 := hP.sub (ws' := [(m0, .inr (12, [.int 0, .ref l1, .ref l2, .int 0, .int 0, .int 0, .long s0])), (l1, .inr (1, [.int 0, .ref a0, .int 0])), (l2, .inr (1, [.int 0, .ref a0, .int 0]))]) [0, 4, 5] rfl
  have hD9 := hD.sub (ws' := [(m0, .inr (12, [.int 0, .ref l1, .ref l2, .int 0, .int 0, .int 0, .long s0])), (l1, .inr (1, [.int 0, .ref a0, .int 0])), (l2, .inr (1, [.int 0, .ref a0, .int 0]))]) [0, 4, 5] (by decide) rfl
  have hK9 := hK.sub (tys' := []) [] rfl
  refine W.widen (k := 3) (n := 20) (Nat.le_of_ble_eq_true rfl) (Nat.le_of_ble_eq_true rfl) ?_
  exact W.iret (v := 0) hx hb hr (fun t ht hW => ⟨⟨0, (), rfl, rfl, ⟨by rw [ht]; exact hP9, va_K.moved hW.alike hK9, hD9⟩⟩, hS.F ht⟩) hS.2.2 dX10_manyNow_151

def zs_c_X10_manyNow_4 : List Cond := .code yX10_manyNow cX10_manyNow 6 (some .int) :: (([.arrayClass .int, .fieldLink RX10 10 "HaltingaleModel" "machines" "Ljava/util/ArrayList;", .code yJx4a65c_iterator_32c93 cJx4a65c_iterator_32c93 1 (some (.object "java/util/Iterator")), .classLink RJx4a65c 267 RJx35411, .instantiable RJx35411 4, .initialized RJx35411, .code yJx35411_init_45d68 cJx35411_init_45d68 2 none, .fieldLink RJx35411 1 "java/util/ArrayList$Itr" "this$0" "Ljava/util/ArrayList;", .methodLink RJx35411 7 objectInit, .instanceMethod objectInit, .code objectInit ⟨#[0xb1]⟩ 1 none, .fieldLink RJx35411 13 "java/util/ArrayList$Itr" "lastRet" "I", .sameField "java/util/ArrayList" "java/util/AbstractList" "modCount" "I", .fieldLink RJx35411 17 "java/util/ArrayList" "modCount" "I", .fieldLink RJx35411 22 "java/util/ArrayList$Itr" "expectedModCount" "I", .methodLink RJx4a65c 269 yJx35411_init_45d68, .instanceMethod yJx35411_init_45d68, .methodLink RX10 158 yJx4a65c_iterator_32c93, .instanceMethod yJx4a65c_iterator_32c93, .initialized RJx4a65c, .selects RJx4a65c yJx4a65c_iterator_32c93 yJx4a65c_iterator_32c93, .code yJx35411_hasNext_aae02 cJx35411_hasNext_aae02 1 (some .boolean), .fieldLink RJx35411 25 "java/util/ArrayList$Itr" "cursor" "I", .methodLink RX10 162 ⟨"java/util/Iterator", "hasNext", "()Z"⟩, .instanceMethod yJx35411_hasNext_aae02, .selects RJx35411 ⟨"java/util/Iterator", "hasNext", "()Z"⟩ yJx35411_hasNext_aae02, .code yJx4a65c_size_8abf5 cJx4a65c_size_8abf5 1 (some .int), .fieldLink RJx4a65c 48 "java/util/ArrayList" "size" "I", .methodLink RX10 23 yJx4a65c_size_8abf5, .instanceMethod yJx4a65c_size_8abf5, .selects RJx4a65c yJx4a65c_size_8abf5 yJx4a65c_size_8abf5, .fieldLink RX10 16 "HaltingaleModel" "tags" "Ljava/util/ArrayList;", .fieldLink RX10 191 "HaltingaleModel" "given" "I", .fieldLink RX10 194 "HaltingaleModel" "taken" "I", .fieldLink RX10 67 "HaltingaleModel" "back" "I"] : List Cond) ++ wsX100 ++ wsJx354110 ++ wsJx4a65c0)
set_option maxHeartbeats 4000000 in
set_option maxRecDepth 100000 in
/-- manyNow of 4 -/
theorem c_X10_manyNow_4 (l : Launch) (hnt : l.stackTraces = false) (dC : Nat → ClassId) (dI : Nat → Nat → Nat) (a0 : Nat) (m0 : Nat) (l1 : Nat) (l2 : Nat) (s0 : Int64) (sz : Nat)  : Met l yX10_manyNow zs_c_X10_manyNow_4 ({ frames := 3, cells := 3, slots := 20, locals := 53 }) (va_Pc [.ref m0, .int 4] (fun U => U.heap.size = sz ∧ va_P (dC, dI) vwCl [(m0, .inr (12, [.int 0, .ref l1, .ref l2, .int 0, .int 0, .int 0, .long s0])), (l1, .inr (1, [.int 0, .ref a0, .int 0])), (l2, .inr (1, [.int 0, .ref a0, .int 0]))] U.heap ∧ va_K (dC, dI) vwCl [] U ∧ va_D (fun _ => True) [(m0, .inr (12, [.int 0, .ref l1, .ref l2, .int 0, .int 0, .int 0, .long s0])), (l1, .inr (1, [.int 0, .ref a0, .int 0])), (l2, .inr (1, [.int 0, .ref a0, .int 0]))] ∧ zB a0 (va_A [(m0, .inr (12, [.int 0, .ref l1, .ref l2, .int 0, .int 0, .int 0, .long s0])), (l1, .inr (1, [.int 0, .ref a0, .int 0])), (l2, .inr (1, [.int 0, .ref a0, .int 0]))] sz) U U.heap)) (va_Qi (fun (r : Int32) (_ : Unit) => r = 0) (fun _ t => va_P (dC, dI) vwCl [(m0, .inr (12, [.int 0, .ref l1, .ref l2, .int 0, .int 0, .int 0, .long s0])), (l1, .inr (1, [.int 0, .ref a0, .int 0])), (l2, .inr (1, [.int 0, .ref a0, .int 0]))] t.heap ∧ va_K (dC, dI) vwCl [] t ∧ va_D (va_A [(m0, .inr (12, [.int 0, .ref l1, .ref l2, .int 0, .int 0, .int 0, .long s0])), (l1, .inr (1, [.int 0, .ref a0, .int 0])), (l2, .inr (1, [.int 0, .ref a0, .int 0]))] sz) [(m0, .inr (12, [.int 0, .ref l1, .ref l2, .int 0, .int 0, .int 0, .long s0])), (l1, .inr (1, [.int 0, .ref a0, .int 0])), (l2, .inr (1, [.int 0, .ref a0, .int 0]))]) (va_A [(m0, .inr (12, [.int 0, .ref l1, .ref l2, .int 0, .int 0, .int 0, .long s0])), (l1, .inr (1, [.int 0, .ref a0, .int 0])), (l2, .inr (1, [.int 0, .ref a0, .int 0]))] sz)) 3 20 (va_A [(m0, .inr (12, [.int 0, .ref l1, .ref l2, .int 0, .int 0, .int 0, .long s0])), (l1, .inr (1, [.int 0, .ref a0, .int 0])), (l2, .inr (1, [.int 0, .ref a0, .int 0]))] sz) := by
  refine Met.ofW (cc := cX10_manyNow) (maxL := 6) (ret := (some .int)) (by decide) rfl ?_
  intro p e s m args below meth c s₁ B hml hv
  obtain ⟨rfl, hsz, hP, hK, hD0, hZ⟩ := hv
  have hx := B.exec
  have hb := B.bytes
  have hr := B.returns
  have hts := atoms_spec (ws := zs_c_X10_manyNow_4) B.pre
  have hown : s.vm.findClass RX10 = some m.cls := findClass_of_methodNamed B.named
  have hlocks := B.notSynchronized
  have hiX10 : ∀ w ∈ wsX100, w ∈ zs_c_X10_manyNow_4 := by decide +kernel
  subst hsz
  have hD := hD0.self (sz := s.heap.size)
  generalize hAe : va_A [(m0, .inr (12, [.int 0, .ref l1, .ref l2, .int 0, .int 0, .int 0, .long s0])), (l1, .inr (1, [.int 0, .ref a0, .int 0])), (l2, .inr (1, [.int 0, .ref a0, .int 0]))] s.heap.size = A at hD hZ ⊢
  have hA : ∀ q : Nat, s.heap.size ≤ q → A q := fun q h => by rw [← hAe]; exact Or.inr h
  have hS : va_S A s.heap s.heap [] := va_S.rf
  have hl := lv_entry ([.ref m0, .int 4]) (n := 6) (Nat.le_of_ble_eq_true rfl)
  rw [lg_entry_eq]
  generalize (lg_sl ([.ref m0, .int 4]) ++ List.replicate (6 - (lg_sl ([.ref m0, .int 4])).length) Slot.unset).toArray = ls at hl ⊢
  have hl : lv_has ls 6 [(0, .ref m0), (1, .int 4)] := hl
  refine lv_iconst (v := 5) hx hb dX10_manyNow_0 (by decide) ?_
  refine va_newa (atype := .int) (ty := .int) (N' := 5) (a0 := (5, .inl (fun _ => 0))) hx hb (hts (.arrayClass .int) (by decide +kernel)) rfl hK hP hD hS hA (fun _ => rfl) (by decide) (by decide) (Nat.le_of_ble_eq_true rfl) (Nat.le_of_ble_eq_true rfl) (Nat.le_of_ble_eq_true rfl) dX10_manyNow_1 (fun q_1 cy_2 H hK hP hD hS => ?_)
  have hK : va_K (dC, dI) vwCl [(cy_2, .int)] s := hK
  have hP : va_P (dC, dI) vwCl [(m0, .inr (12, [.int 0, .ref l1, .ref l2, .int 0, .int 0, .int 0, .long s0])), (l1, .inr (1, [.int 0, .ref a0, .int 0])), (l2, .inr (1, [.int 0, .ref a0, .int 0])), (q_1, .inl (cy_2, 5, .inl (fun _ => 0)))] H := hP
  have hD : va_D A [(m0, .inr (12, [.int 0, .ref l1, .ref l2, .int 0, .int 0, .int 0, .long s0])), (l1, .inr (1, [.int 0, .ref a0, .int 0])), (l2, .inr (1, [.int 0, .ref a0, .int 0])), (q_1, .inl (cy_2, 5, .inl (fun _ => 0)))] := hD
  refine W.widen (k := 1) (n := 5) (Nat.le_of_ble_eq_true rfl) (Nat.le_of_ble_eq_true rfl) ?_
  refine lv_astore_n (lv' := [(2, .ref q_1), (0, .ref m0), (1, .int 4)]) hx hb dX10_manyNow_3 rfl hl (by decide) rfl (fun ls hl => ?_)
  refine lv_iconst (v := 0) hx hb dX10_manyNow_4 (by decide) ?_
  refine lv_istore_n (lv' := [(3, .int 0), (2, .ref q_1), (0, .ref m0), (1, .int 4)]) hx hb dX10_manyNow_5 rfl hl (by decide) rfl (fun ls hl => ?_)
  refine lv_aload_n hx hb dX10_manyNow_6 rfl (lv_at hl 2 rfl) ?_
  refine va_get (D := (dC, dI)) (ci := 12) (v := .ref l1) (C := RX10) (T := TX10) (N := 7) hx hb hts hiX10 hown hK hP 0 rfl rfl 1 (by decide) (hts (.fieldLink RX10 10 "HaltingaleModel" "machines" "Ljava/util/ArrayList;") (by decide +kernel)) (fun _ h9 => h9) rfl dX10_manyNow_7 ?_
  have hPc := hP.sub (ws' := [(l1, .inr (1, [.int 0, .ref a0, .int 0]))]) [1] rfl
  have hDc := hD.sub (ws' := [(l1, .inr (1, [.int 0, .ref a0, .int 0]))]) [1] (by decide) rfl
  have hKc := hK.sub (tys' := []) [] rfl
  have hFc := va_free (wc := [(l1, .inr (1, [.int 0, .ref a0, .int 0]))]) hD hS hA [1] rfl
  have hZc := ((hZ.kept hS.2.1).narrow hFc)
  refine va_callr (va_runV (As := []) (rest := []) ⟨hx, hb, hml, hown, hts⟩ (c_Jx4a65c_iterator_32c93 l hnt dC dI a0 l1 H.size ) (cwV 0 hts (goodIn_of _ (by decide +kernel)) rfl rfl rfl (by decide +kernel) ⟨Nat.le_of_ble_eq_true rfl, Nat.le_of_ble_eq_true rfl⟩) ⟨fun a U g mk q => by obtain ⟨q0, q1, qP, qK, qD, qZ⟩ := q; exact ⟨q0, q1, qP, va_K.moved (u := U) (U := U.calling g mk a) (Vm.Alike.refl U.vm) qK, qD, qZ.call⟩, va_recv hKc hPc (ci := 1) (q0 := 0) rfl rfl, fun U hU hW => ⟨rfl, by rw [hU], by rw [hU]; exact hPc, va_K.moved hW.alike hKc, hDc.weaken (fun _ _ _ _ => trivial), by rw [hU]; exact hZc.warm hW⟩⟩ rfl rfl hl.1 rfl (lv_room (Nat.le_of_ble_eq_true rfl)) dX10_manyNow_10 ⟨Nat.le_of_ble_eq_true rfl, Nat.le_of_ble_eq_true rfl⟩) hS (fun q _ h => hFc q h) hFc (fun u r_3 t H1 locs ht hvm hw hB hz1 hk1 hS => ?_)
  obtain ⟨hP1, hK1, hD1⟩ := hB
  rw [ht] at hP1
  have hK1 := va_K.moved hvm.symm hK1
  obtain ⟨hP, hD⟩ := va_join (wr := [(m0, .inr (12, [.int 0, .ref l1, .ref l2, .int 0, .int 0, .int 0, .long s0])), (l2, .inr (1, [.int 0, .ref a0, .int 0])), (q_1, .inl (cy_2, 5, .inl (fun _ => 0)))]) (w1 := [(r_3, .inr (0, [.int 0, .int (-1), .int 0, .ref l1])), (l1, .inr (1, [.int 0, .ref a0, .int 0]))]) hP hD [1] [0, 2, 3] rfl rfl (by decide) (by decide) hk1 hFc hP1 hD1
  have hK := (hK.sub (tys' := [(cy_2, .int)]) [0] rfl).app hK1
  generalize H1 = H at hP hS ⊢
  have hP : va_P (dC, dI) vwCl [(m0, .inr (12, [.int 0, .ref l1, .ref l2, .int 0, .int 0, .int 0, .long s0])), (l2, .inr (1, [.int 0, .ref a0, .int 0])), (q_1, .inl (cy_2, 5, .inl (fun _ => 0))), (r_3, .inr (0, [.int 0, .int (-1), .int 0, .ref l1])), (l1, .inr (1, [.int 0, .ref a0, .int 0]))] H := hP
  have hD : va_D A [(m0, .inr (12, [.int 0, .ref l1, .ref l2, .int 0, .int 0, .int 0, .long s0])), (l2, .inr (1, [.int 0, .ref a0, .int 0])), (q_1, .inl (cy_2, 5, .inl (fun _ => 0))), (r_3, .inr (0, [.int 0, .int (-1), .int 0, .ref l1])), (l1, .inr (1, [.int 0, .ref a0, .int 0]))] := hD
  have hK : va_K (dC, dI) vwCl [(cy_2, .int)] s := hK
  refine W.widen (k := 2) (n := 9) (Nat.le_of_ble_eq_true rfl) (Nat.le_of_ble_eq_true rfl) ?_
  refine lv_astore (lv' := [(4, .ref r_3), (3, .int 0), (2, .ref q_1), (0, .ref m0), (1, .int 4)]) hx hb dX10_manyNow_13 hl (by decide) rfl (fun ls hl => ?_)
  refine lv_aload hx hb dX10_manyNow_15 (lv_at hl 0 rfl) ?_
  have hPc := hP.sub (ws' := [(r_3, .inr (0, [.int 0, .int (-1), .int 0, .ref l1])), (l1, .inr (1, [.int 0, .ref a0, .int 0]))]) [3, 4] rfl
  have hDc := hD.sub (ws' := [(r_3, .inr (0, [.int 0, .int (-1), .int 0, .ref l1])), (l1, .inr (1, [.int 0, .ref a0, .int 0]))]) [3, 4] (by decide) rfl
  have hKc := hK.sub (tys' := []) [] rfl
  have hFc := va_free (wc := [(r_3, .inr (0, [.int 0, .int (-1), .int 0, .ref l1])), (l1, .inr (1, [.int 0, .ref a0, .int 0]))]) hD hS hA [3, 4] rfl
  have hZc := ((hZ.kept hS.2.1).narrow hFc)
  refine va_callFi (va_runF (As := []) (rest := []) (zz_at hK 0 rfl) ⟨hx, hb, hml, hown, hts⟩ (c_Jx35411_hasNext_aae02 l hnt dC dI a0 r_3 l1 H.size ) (va_cwF 0 hts (goodIn_of _ (by decide +kernel)) rfl rfl rfl hZ.fwN (by decide +kernel) ⟨Nat.le_of_ble_eq_true rfl, Nat.le_of_ble_eq_true rfl⟩) ⟨fun a U g mk q => by obtain ⟨q0, q1, qP, qK, qD, qZ⟩ := q; exact ⟨q0, q1, qP, va_K.moved (u := U) (U := U.calling g mk a) (Vm.Alike.refl U.vm) qK, qD, qZ.call⟩, va_recv hKc hPc (ci := 0) (q0 := 0) rfl rfl, fun U hU hW => ⟨rfl, by rw [hU], by rw [hU]; exact hPc, va_K.moved hW.alike hKc, hDc.weaken (fun _ _ _ _ => trivial), by rw [hU]; exact hZc.warm hW⟩⟩ rfl rfl hl.1 rfl (lv_room (Nat.le_of_ble_eq_true rfl)) dX10_manyNow_17 ⟨Nat.le_of_ble_eq_true rfl, Nat.le_of_ble_eq_true rfl⟩) hS (fun q _ h => hFc q h) hFc (fun r_4 u t H1 locs ht hvm hw hB hz1 hk1 hS => ?_)
  obtain ⟨hP1, hK1, hD1⟩ := hB
  rw [ht] at hP1
  have hK1 := va_K.moved hvm.symm hK1
  obtain ⟨hP, hD⟩ := va_join (wr := [(m0, .inr (12, [.int 0, .ref l1, .ref l2, .int 0, .int 0, .int 0, .long s0])), (l2, .inr (1, [.int 0, .ref a0, .int 0])), (q_1, .inl (cy_2, 5, .inl (fun _ => 0)))]) (w1 := [(r_3, .inr (0, [.int 0, .int (-1), .int 0, .ref l1])), (l1, .inr (1, [.int 0, .ref a0, .int 0]))]) hP hD [3, 4] [0, 1, 2] rfl rfl (by decide) (by decide) hk1 hFc hP1 hD1
  have hK := (hK.sub (tys' := [(cy_2, .int)]) [0] rfl).app hK1
  generalize H1 = H at hP hS ⊢
  have hP : va_P (dC, dI) vwCl [(m0, .inr (12, [.int 0, .ref l1, .ref l2, .int 0, .int 0, .int 0, .long s0])), (l2, .inr (1, [.int 0, .ref a0, .int 0])), (q_1, .inl (cy_2, 5, .inl (fun _ => 0))), (r_3, .inr (0, [.int 0, .int (-1), .int 0, .ref l1])), (l1, .inr (1, [.int 0, .ref a0, .int 0]))] H := hP
  have hD : va_D A [(m0, .inr (12, [.int 0, .ref l1, .ref l2, .int 0, .int 0, .int 0, .long s0])), (l2, .inr (1, [.int 0, .ref a0, .int 0])), (q_1, .inl (cy_2, 5, .inl (fun _ => 0))), (r_3, .inr (0, [.int 0, .int (-1), .int 0, .ref l1])), (l1, .inr (1, [.int 0, .ref a0, .int 0]))] := hD
  have hK : va_K (dC, dI) vwCl [(cy_2, .int)] s := hK
  refine W.widen (k := 2) (n := 9) (Nat.le_of_ble_eq_true rfl) (Nat.le_of_ble_eq_true rfl) ?_
  obtain rfl : r_4 = 0 := hw
  refine lv_if_eq (tgt := 61) hx hb dX10_manyNow_22 (by decide) (fun c_5 => ?_) (fun c_5 => ?_)
  rotate_left
  · (first | exact absurd c_5 (by decide) | exact absurd (by decide) c_5)
  refine lv_bipush (v := 11) hx hb dX10_manyNow_61 (by decide) ?_
  refine va_newa (atype := .int) (ty := .int) (N' := 11) (a0 := (11, .inl (fun _ => 0))) hx hb (hts (.arrayClass .int) (by decide +kernel)) rfl hK hP hD hS hA (fun _ => rfl) (by decide) (by decide) (Nat.le_of_ble_eq_true rfl) (Nat.le_of_ble_eq_true rfl) (Nat.le_of_ble_eq_true rfl) dX10_manyNow_63 (fun q_6 cy_7 H hK hP hD hS => ?_)
  have hK : va_K (dC, dI) vwCl [(cy_2, .int), (cy_7, .int)] s := hK
  have hP : va_P (dC, dI) vwCl [(m0, .inr (12, [.int 0, .ref l1, .ref l2, .int 0, .int 0, .int 0, .long s0])), (l2, .inr (1, [.int 0, .ref a0, .int 0])), (q_1, .inl (cy_2, 5, .inl (fun _ => 0))), (r_3, .inr (0, [.int 0, .int (-1), .int 0, .ref l1])), (l1, .inr (1, [.int 0, .ref a0, .int 0])), (q_6, .inl (cy_7, 11, .inl (fun _ => 0)))] H := hP
  have hD : va_D A [(m0, .inr (12, [.int 0, .ref l1, .ref l2, .int 0, .int 0, .int 0, .long s0])), (l2, .inr (1, [.int 0, .ref a0, .int 0])), (q_1, .inl (cy_2, 5, .inl (fun _ => 0))), (r_3, .inr (0, [.int 0, .int (-1), .int 0, .ref l1])), (l1, .inr (1, [.int 0, .ref a0, .int 0])), (q_6, .inl (cy_7, 11, .inl (fun _ => 0)))] := hD
  refine W.widen (k := 3) (n := 20) (Nat.le_of_ble_eq_true rfl) (Nat.le_of_ble_eq_true rfl) ?_
  refine lv_dup hx hb dX10_manyNow_65 rfl ?_
  refine lv_iconst (v := 0) hx hb dX10_manyNow_66 (by decide) ?_
  refine lv_aload_n hx hb dX10_manyNow_67 rfl (lv_at hl 3 rfl) ?_
  refine va_get (D := (dC, dI)) (ci := 12) (v := .ref l1) (C := RX10) (T := TX10) (N := 7) hx hb hts hiX10 hown hK hP 0 rfl rfl 1 (by decide) (hts (.fieldLink RX10 10 "HaltingaleModel" "machines" "Ljava/util/ArrayList;") (by decide +kernel)) (fun _ h9 => h9) rfl dX10_manyNow_68 ?_
  have hPc := hP.sub (ws' := [(l1, .inr (1, [.int 0, .ref a0, .int 0]))]) [4] rfl
  have hDc := hD.sub (ws' := [(l1, .inr (1, [.int 0, .ref a0, .int 0]))]) [4] (by decide) rfl
  have hKc := hK.sub (tys' := []) [] rfl
  have hFc := va_free (wc := [(l1, .inr (1, [.int 0, .ref a0, .int 0]))]) hD hS hA [4] rfl
  have hZc := ((hZ.kept hS.2.1).narrow hFc)
  refine va_calli (va_runV (As := []) (rest := [.int 0, .ref q_6, .ref q_6]) ⟨hx, hb, hml, hown, hts⟩ (c_Jx4a65c_size_8abf5 l hnt dC dI a0 l1 0 a0 0 H.size ) (cwV 0 hts (goodIn_of _ (by decide +kernel)) rfl rfl rfl (by decide +kernel) ⟨Nat.le_of_ble_eq_true rfl, Nat.le_of_ble_eq_true rfl⟩) ⟨fun a U g mk q => by obtain ⟨q0, q1, qP, qK, qD, qZ⟩ := q; exact ⟨q0, q1, qP, va_K.moved (u := U) (U := U.calling g mk a) (Vm.Alike.refl U.vm) qK, qD, qZ.call⟩, va_recv hKc hPc (ci := 1) (q0 := 0) rfl rfl, fun U hU hW => ⟨rfl, by rw [hU], by rw [hU]; exact hPc, va_K.moved hW.alike hKc, hDc.weaken (fun _ _ _ _ => trivial), by rw [hU]; exact hZc.warm hW⟩⟩ rfl rfl hl.1 rfl (lv_room (Nat.le_of_ble_eq_true rfl)) dX10_manyNow_71 ⟨Nat.le_of_ble_eq_true rfl, Nat.le_of_ble_eq_true rfl⟩) hS (fun q _ h => hFc q h) hFc (fun r_8 u t H1 locs ht hvm hw hB hz1 hk1 hS => ?_)
  obtain ⟨hP1, hK1, hD1⟩ := hB
  rw [ht] at hP1
  have hK1 := va_K.moved hvm.symm hK1
  obtain ⟨hP, hD⟩ := va_join (wr := [(m0, .inr (12, [.int 0, .ref l1, .ref l2, .int 0, .int 0, .int 0, .long s0])), (l2, .inr (1, [.int 0, .ref a0, .int 0])), (q_1, .inl (cy_2, 5, .inl (fun _ => 0))), (r_3, .inr (0, [.int 0, .int (-1), .int 0, .ref l1])), (q_6, .inl (cy_7, 11, .inl (fun _ => 0)))]) (w1 := [(l1, .inr (1, [.int 0, .ref a0, .int 0]))]) hP hD [4] [0, 1, 2, 3, 5] rfl rfl (by decide) (by decide) hk1 hFc hP1 hD1
  have hK := (hK.sub (tys' := [(cy_2, .int), (cy_7, .int)]) [0, 1] rfl).app hK1
  generalize H1 = H at hP hS ⊢
  have hP : va_P (dC, dI) vwCl [(m0, .inr (12, [.int 0, .ref l1, .ref l2, .int 0, .int 0, .int 0, .long s0])), (l2, .inr (1, [.int 0, .ref a0, .int 0])), (q_1, .inl (cy_2, 5, .inl (fun _ => 0))), (r_3, .inr (0, [.int 0, .int (-1), .int 0, .ref l1])), (q_6, .inl (cy_7, 11, .inl (fun _ => 0))), (l1, .inr (1, [.int 0, .ref a0, .int 0]))] H := hP
  have hD : va_D A [(m0, .inr (12, [.int 0, .ref l1, .ref l2, .int 0, .int 0, .int 0, .long s0])), (l2, .inr (1, [.int 0, .ref a0, .int 0])), (q_1, .inl (cy_2, 5, .inl (fun _ => 0))), (r_3, .inr (0, [.int 0, .int (-1), .int 0, .ref l1])), (q_6, .inl (cy_7, 11, .inl (fun _ => 0))), (l1, .inr (1, [.int 0, .ref a0, .int 0]))] := hD
  have hK : va_K (dC, dI) vwCl [(cy_2, .int), (cy_7, .int)] s := hK
  refine W.widen (k := 3) (n := 20) (Nat.le_of_ble_eq_true rfl) (Nat.le_of_ble_eq_true rfl) ?_
  obtain rfl : r_8 = 0 := hw
  refine va_iast hx hb hK hP hD hS 4 1 rfl rfl (by unfold vp_in; decide) dX10_manyNow_74 (fun H locs hP hD hS => ?_)
  have hP : va_P (dC, dI) vwCl [(m0, .inr (12, [.int 0, .ref l1, .ref l2, .int 0, .int 0, .int 0, .long s0])), (l2, .inr (1, [.int 0, .ref a0, .int 0])), (q_1, .inl (cy_2, 5, .inl (fun _ => 0))), (r_3, .inr (0, [.int 0, .int (-1), .int 0, .ref l1])), (q_6, .inl (cy_7, 11, .inl (upd (fun _ => 0) ((0 : Int32).toNatClampNeg) 0))), (l1, .inr (1, [.int 0, .ref a0, .int 0]))] H := hP
  have hD : va_D A [(m0, .inr (12, [.int 0, .ref l1, .ref l2, .int 0, .int 0, .int 0, .long s0])), (l2, .inr (1, [.int 0, .ref a0, .int 0])), (q_1, .inl (cy_2, 5, .inl (fun _ => 0))), (r_3, .inr (0, [.int 0, .int (-1), .int 0, .ref l1])), (q_6, .inl (cy_7, 11, .inl (upd (fun _ => 0) ((0 : Int32).toNatClampNeg) 0))), (l1, .inr (1, [.int 0, .ref a0, .int 0]))] := hD
  refine lv_dup hx hb dX10_manyNow_75 rfl ?_
  refine lv_iconst (v := 1) hx hb dX10_manyNow_76 (by decide) ?_
  refine lv_aload_n hx hb dX10_manyNow_77 rfl (lv_at hl 2 rfl) ?_
  refine lv_iconst (v := 0) hx hb dX10_manyNow_78 (by decide) ?_
  refine va_iald hx hb hK hP 2 0 rfl rfl (by unfold vp_in; decide) dX10_manyNow_79 ?_
  refine lv_topi (fun x_10 ex_10 => ?_)
  obtain rfl : x_10 = 0 := ex_10.trans (by decide +kernel)
  refine va_iast hx hb hK hP hD hS 4 1 rfl rfl (by unfold vp_in; decide) dX10_manyNow_80 (fun H locs hP hD hS => ?_)
  have hP : va_P (dC, dI) vwCl [(m0, .inr (12, [.int 0, .ref l1, .ref l2, .int 0, .int 0, .int 0, .long s0])), (l2, .inr (1, [.int 0, .ref a0, .int 0])), (q_1, .inl (cy_2, 5, .inl (fun _ => 0))), (r_3, .inr (0, [.int 0, .int (-1), .int 0, .ref l1])), (q_6, .inl (cy_7, 11, .inl (upd (upd (fun _ => 0) ((0 : Int32).toNatClampNeg) 0) ((1 : Int32).toNatClampNeg) 0))), (l1, .inr (1, [.int 0, .ref a0, .int 0]))] H := hP
  have hD : va_D A [(m0, .inr (12, [.int 0, .ref l1, .ref l2, .int 0, .int 0, .int 0, .long s0])), (l2, .inr (1, [.int 0, .ref a0, .int 0])), (q_1, .inl (cy_2, 5, .inl (fun _ => 0))), (r_3, .inr (0, [.int 0, .int (-1), .int 0, .ref l1])), (q_6, .inl (cy_7, 11, .inl (upd (upd (fun _ => 0) ((0 : Int32).toNatClampNeg) 0) ((1 : Int32).toNatClampNeg) 0))), (l1, .inr (1, [.int 0, .ref a0, .int 0]))] := hD
  refine lv_dup hx hb dX10_manyNow_81 rfl ?_
  refine lv_iconst (v := 2) hx hb dX10_manyNow_82 (by decide) ?_
  refine lv_aload_n hx hb dX10_manyNow_83 rfl (lv_at hl 2 rfl) ?_
  refine lv_iconst (v := 1) hx hb dX10_manyNow_84 (by decide) ?_
  refine va_iald hx hb hK hP 2 0 rfl rfl (by unfold vp_in; decide) dX10_manyNow_85 ?_
  refine lv_topi (fun x_12 ex_12 => ?_)
  obtain rfl : x_12 = 0 := ex_12.trans (by decide +kernel)
  refine va_iast hx hb hK hP hD hS 4 1 rfl rfl (by unfold vp_in; decide) dX10_manyNow_86 (fun H locs hP hD hS => ?_)
  have hP : va_P (dC, dI) vwCl [(m0, .inr (12, [.int 0, .ref l1, .ref l2, .int 0, .int 0, .int 0, .long s0])), (l2, .inr (1, [.int 0, .ref a0, .int 0])), (q_1, .inl (cy_2, 5, .inl (fun _ => 0))), (r_3, .inr (0, [.int 0, .int (-1), .int 0, .ref l1])), (q_6, .inl (cy_7, 11, .inl (upd (upd (upd (fun _ => 0) ((0 : Int32).toNatClampNeg) 0) ((1 : Int32).toNatClampNeg) 0) ((2 : Int32).toNatClampNeg) 0))), (l1, .inr (1, [.int 0, .ref a0, .int 0]))] H := hP
  have hD : va_D A [(m0, .inr (12, [.int 0, .ref l1, .ref l2, .int 0, .int 0, .int 0, .long s0])), (l2, .inr (1, [.int 0, .ref a0, .int 0])), (q_1, .inl (cy_2, 5, .inl (fun _ => 0))), (r_3, .inr (0, [.int 0, .int (-1), .int 0, .ref l1])), (q_6, .inl (cy_7, 11, .inl (upd (upd (upd (fun _ => 0) ((0 : Int32).toNatClampNeg) 0) ((1 : Int32).toNatClampNeg) 0) ((2 : Int32).toNatClampNeg) 0))), (l1, .inr (1, [.int 0, .ref a0, .int 0]))] := hD
  refine lv_dup hx hb dX10_manyNow_87 rfl ?_
  refine lv_iconst (v := 3) hx hb dX10_manyNow_88 (by decide) ?_
  refine lv_aload_n hx hb dX10_manyNow_89 rfl (lv_at hl 2 rfl) ?_
  refine lv_iconst (v := 2) hx hb dX10_manyNow_90 (by decide) ?_
  refine va_iald hx hb hK hP 2 0 rfl rfl (by unfold vp_in; decide) dX10_manyNow_91 ?_
  refine lv_topi (fun x_14 ex_14 => ?_)
  obtain rfl : x_14 = 0 := ex_14.trans (by decide +kernel)
  refine va_iast hx hb hK hP hD hS 4 1 rfl rfl (by unfold vp_in; decide) dX10_manyNow_92 (fun H locs hP hD hS => ?_)
  have hP : va_P (dC, dI) vwCl [(m0, .inr (12, [.int 0, .ref l1, .ref l2, .int 0, .int 0, .int 0, .long s0])), (l2, .inr (1, [.int 0, .ref a0, .int 0])), (q_1, .inl (cy_2, 5, .inl (fun _ => 0))), (r_3, .inr (0, [.int 0, .int (-1), .int 0, .ref l1])), (q_6, .inl (cy_7, 11, .inl (upd (upd (upd (upd (fun _ => 0) ((0 : Int32).toNatClampNeg) 0) ((1 : Int32).toNatClampNeg) 0) ((2 : Int32).toNatClampNeg) 0) ((3 : Int32).toNatClampNeg) 0))), (l1, .inr (1, [.int 0, .ref a0, .int 0]))] H := hP
  have hD : va_D A [(m0, .inr (12, [.int 0, .ref l1, .ref l2, .int 0, .int 0, .int 0, .long s0])), (l2, .inr (1, [.int 0, .ref a0, .int 0])), (q_1, .inl (cy_2, 5, .inl (fun _ => 0))), (r_3, .inr (0, [.int 0, .int (-1), .int 0, .ref l1])), (q_6, .inl (cy_7, 11, .inl (upd (upd (upd (upd (fun _ => 0) ((0 : Int32).toNatClampNeg) 0) ((1 : Int32).toNatClampNeg) 0) ((2 : Int32).toNatClampNeg) 0) ((3 : Int32).toNatClampNeg) 0))), (l1, .inr (1, [.int 0, .ref a0, .int 0]))] := hD
  refine lv_dup hx hb dX10_manyNow_93 rfl ?_
  refine lv_iconst (v := 4) hx hb dX10_manyNow_94 (by decide) ?_
  refine lv_aload_n hx hb dX10_manyNow_95 rfl (lv_at hl 2 rfl) ?_
  refine lv_iconst (v := 3) hx hb dX10_manyNow_96 (by decide) ?_
  refine va_iald hx hb hK hP 2 0 rfl rfl (by unfold vp_in; decide) dX10_manyNow_97 ?_
  refine lv_topi (fun x_16 ex_16 => ?_)
  obtain rfl : x_16 = 0 := ex_16.trans (by decide +kernel)
  refine va_iast hx hb hK hP hD hS 4 1 rfl rfl (by unfold vp_in; decide) dX10_manyNow_98 (fun H locs hP hD hS => ?_)
  have hP : va_P (dC, dI) vwCl [(m0, .inr (12, [.int 0, .ref l1, .ref l2, .int 0, .int 0, .int 0, .long s0])), (l2, .inr (1, [.int 0, .ref a0, .int 0])), (q_1, .inl (cy_2, 5, .inl (fun _ => 0))), (r_3, .inr (0, [.int 0, .int (-1), .int 0, .ref l1])), (q_6, .inl (cy_7, 11, .inl (upd (upd (upd (upd (upd (fun _ => 0) ((0 : Int32).toNatClampNeg) 0) ((1 : Int32).toNatClampNeg) 0) ((2 : Int32).toNatClampNeg) 0) ((3 : Int32).toNatClampNeg) 0) ((4 : Int32).toNatClampNeg) 0))), (l1, .inr (1, [.int 0, .ref a0, .int 0]))] H := hP
  have hD : va_D A [(m0, .inr (12, [.int 0, .ref l1, .ref l2, .int 0, .int 0, .int 0, .long s0])), (l2, .inr (1, [.int 0, .ref a0, .int 0])), (q_1, .inl (cy_2, 5, .inl (fun _ => 0))), (r_3, .inr (0, [.int 0, .int (-1), .int 0, .ref l1])), (q_6, .inl (cy_7, 11, .inl (upd (upd (upd (upd (upd (fun _ => 0) ((0 : Int32).toNatClampNeg) 0) ((1 : Int32).toNatClampNeg) 0) ((2 : Int32).toNatClampNeg) 0) ((3 : Int32).toNatClampNeg) 0) ((4 : Int32).toNatClampNeg) 0))), (l1, .inr (1, [.int 0, .ref a0, .int 0]))] := hD
  refine lv_dup hx hb dX10_manyNow_99 rfl ?_
  refine lv_iconst (v := 5) hx hb dX10_manyNow_100 (by decide) ?_
  refine lv_aload_n hx hb dX10_manyNow_101 rfl (lv_at hl 2 rfl) ?_
  refine lv_iconst (v := 4) hx hb dX10_manyNow_102 (by decide) ?_
  refine va_iald hx hb hK hP 2 0 rfl rfl (by unfold vp_in; decide) dX10_manyNow_103 ?_
  refine lv_topi (fun x_18 ex_18 => ?_)
  obtain rfl : x_18 = 0 := ex_18.trans (by decide +kernel)
  refine va_iast hx hb hK hP hD hS 4 1 rfl rfl (by unfold vp_in; decide) dX10_manyNow_104 (fun H locs hP hD hS => ?_)
  have hP : va_P (dC, dI) vwCl [(m0, .inr (12, [.int 0, .ref l1, .ref l2, .int 0, .int 0, .int 0, .long s0])), (l2, .inr (1, [.int 0, .ref a0, .int 0])), (q_1, .inl (cy_2, 5, .inl (fun _ => 0))), (r_3, .inr (0, [.int 0, .int (-1), .int 0, .ref l1])), (q_6, .inl (cy_7, 11, .inl (upd (upd (upd (upd (upd (upd (fun _ => 0) ((0 : Int32).toNatClampNeg) 0) ((1 : Int32).toNatClampNeg) 0) ((2 : Int32).toNatClampNeg) 0) ((3 : Int32).toNatClampNeg) 0) ((4 : Int32).toNatClampNeg) 0) ((5 : Int32).toNatClampNeg) 0))), (l1, .inr (1, [.int 0, .ref a0, .int 0]))] H := hP
  have hD : va_D A [(m0, .inr (12, [.int 0, .ref l1, .ref l2, .int 0, .int 0, .int 0, .long s0])), (l2, .inr (1, [.int 0, .ref a0, .int 0])), (q_1, .inl (cy_2, 5, .inl (fun _ => 0))), (r_3, .inr (0, [.int 0, .int (-1), .int 0, .ref l1])), (q_6, .inl (cy_7, 11, .inl (upd (upd (upd (upd (upd (upd (fun _ => 0) ((0 : Int32).toNatClampNeg) 0) ((1 : Int32).toNatClampNeg) 0) ((2 : Int32).toNatClampNeg) 0) ((3 : Int32).toNatClampNeg) 0) ((4 : Int32).toNatClampNeg) 0) ((5 : Int32).toNatClampNeg) 0))), (l1, .inr (1, [.int 0, .ref a0, .int 0]))] := hD
  refine lv_dup hx hb dX10_manyNow_105 rfl ?_
  refine lv_bipush (v := 6) hx hb dX10_manyNow_106 (by decide) ?_
  refine lv_aload_n hx hb dX10_manyNow_108 rfl (lv_at hl 3 rfl) ?_
  refine va_get (D := (dC, dI)) (ci := 12) (v := .ref l2) (C := RX10) (T := TX10) (N := 7) hx hb hts hiX10 hown hK hP 0 rfl rfl 2 (by decide) (hts (.fieldLink RX10 16 "HaltingaleModel" "tags" "Ljava/util/ArrayList;") (by decide +kernel)) (fun _ h9 => h9) rfl dX10_manyNow_109 ?_
  have hPc := hP.sub (ws' := [(l2, .inr (1, [.int 0, .ref a0, .int 0]))]) [1] rfl
  have hDc := hD.sub (ws' := [(l2, .inr (1, [.int 0, .ref a0, .int 0]))]) [1] (by decide) rfl
  have hKc := hK.sub (tys' := []) [] rfl
  have hFc := va_free (wc := [(l2, .inr (1, [.int 0, .ref a0, .int 0]))]) hD hS hA [1] rfl
  have hZc := ((hZ.kept hS.2.1).narrow hFc)
  refine va_calli (va_runV (As := []) (rest := [.int 6, .ref q_6, .ref q_6]) ⟨hx, hb, hml, hown, hts⟩ (c_Jx4a65c_size_8abf5 l hnt dC dI a0 l2 0 a0 0 H.size ) (cwV 0 hts (goodIn_of _ (by decide +kernel)) rfl rfl rfl (by decide +kernel) ⟨Nat.le_of_ble_eq_true rfl, Nat.le_of_ble_eq_true rfl⟩) ⟨fun a U g mk q => by obtain ⟨q0, q1, qP, qK, qD, qZ⟩ := q; exact ⟨q0, q1, qP, va_K.moved (u := U) (U := U.calling g mk a) (Vm.Alike.refl U.vm) qK, qD, qZ.call⟩, va_recv hKc hPc (ci := 1) (q0 := 0) rfl rfl, fun U hU hW => ⟨rfl, by rw [hU], by rw [hU]; exact hPc, va_K.moved hW.alike hKc, hDc.weaken (fun _ _ _ _ => trivial), by rw [hU]; exact hZc.warm hW⟩⟩ rfl rfl hl.1 rfl (lv_room (Nat.le_of_ble_eq_true rfl)) dX10_manyNow_112 ⟨Nat.le_of_ble_eq_true rfl, Nat.le_of_ble_eq_true rfl⟩) hS (fun q _ h => hFc q h) hFc (fun r_20 u t H1 locs ht hvm hw hB hz1 hk1 hS => ?_)
  obtain ⟨hP1, hK1, hD1⟩ := hB
  rw [ht] at hP1
  have hK1 := va_K.moved hvm.symm hK1
  obtain ⟨hP, hD⟩ := va_join (wr := [(m0, .inr (12, [.int 0, .ref l1, .ref l2, .int 0, .int 0, .int 0, .long s0])), (q_1, .inl (cy_2, 5, .inl (fun _ => 0))), (r_3, .inr (0, [.int 0, .int (-1), .int 0, .ref l1])), (q_6, .inl (cy_7, 11, .inl (upd (upd (upd (upd (upd (upd (fun _ => 0) ((0 : Int32).toNatClampNeg) 0) ((1 : Int32).toNatClampNeg) 0) ((2 : Int32).toNatClampNeg) 0) ((3 : Int32).toNatClampNeg) 0) ((4 : Int32).toNatClampNeg) 0) ((5 : Int32).toNatClampNeg) 0))), (l1, .inr (1, [.int 0, .ref a0, .int 0]))]) (w1 := [(l2, .inr (1, [.int 0, .ref a0, .int 0]))]) hP hD [1] [0, 2, 3, 4, 5] rfl rfl (by decide) (by decide) hk1 hFc hP1 hD1
  have hK := (hK.sub (tys' := [(cy_2, .int), (cy_7, .int)]) [0, 1] rfl).app hK1
  generalize H1 = H at hP hS ⊢
  have hP : va_P (dC, dI) vwCl [(m0, .inr (12, [.int 0, .ref l1, .ref l2, .int 0, .int 0, .int 0, .long s0])), (q_1, .inl (cy_2, 5, .inl (fun _ => 0))), (r_3, .inr (0, [.int 0, .int (-1), .int 0, .ref l1])), (q_6, .inl (cy_7, 11, .inl (upd (upd (upd (upd (upd (upd (fun _ => 0) ((0 : Int32).toNatClampNeg) 0) ((1 : Int32).toNatClampNeg) 0) ((2 : Int32).toNatClampNeg) 0) ((3 : Int32).toNatClampNeg) 0) ((4 : Int32).toNatClampNeg) 0) ((5 : Int32).toNatClampNeg) 0))), (l1, .inr (1, [.int 0, .ref a0, .int 0])), (l2, .inr (1, [.int 0, .ref a0, .int 0]))] H := hP
  have hD : va_D A [(m0, .inr (12, [.int 0, .ref l1, .ref l2, .int 0, .int 0, .int 0, .long s0])), (q_1, .inl (cy_2, 5, .inl (fun _ => 0))), (r_3, .inr (0, [.int 0, .int (-1), .int 0, .ref l1])), (q_6, .inl (cy_7, 11, .inl (upd (upd (upd (upd (upd (upd (fun _ => 0) ((0 : Int32).toNatClampNeg) 0) ((1 : Int32).toNatClampNeg) 0) ((2 : Int32).toNatClampNeg) 0) ((3 : Int32).toNatClampNeg) 0) ((4 : Int32).toNatClampNeg) 0) ((5 : Int32).toNatClampNeg) 0))), (l1, .inr (1, [.int 0, .ref a0, .int 0])), (l2, .inr (1, [.int 0, .ref a0, .int 0]))] := hD
  have hK : va_K (dC, dI) vwCl [(cy_2, .int), (cy_7, .int)] s := hK
  refine W.widen (k := 3) (n := 20) (Nat.le_of_ble_eq_true rfl) (Nat.le_of_ble_eq_true rfl) ?_
  obtain rfl : r_20 = 0 := hw
  refine va_iast hx hb hK hP hD hS 3 1 rfl rfl (by unfold vp_in; decide) dX10_manyNow_115 (fun H locs hP hD hS => ?_)
  have hP : va_P (dC, dI) vwCl [(m0, .inr (12, [.int 0, .ref l1, .ref l2, .int 0, .int 0, .int 0, .long s0])), (q_1, .inl (cy_2, 5, .inl (fun _ => 0))), (r_3, .inr (0, [.int 0, .int (-1), .int 0, .ref l1])), (q_6, .inl (cy_7, 11, .inl (upd (upd (upd (upd (upd (upd (upd (fun _ => 0) ((0 : Int32).toNatClampNeg) 0) ((1 : Int32).toNatClampNeg) 0) ((2 : Int32).toNatClampNeg) 0) ((3 : Int32).toNatClampNeg) 0) ((4 : Int32).toNatClampNeg) 0) ((5 : Int32).toNatClampNeg) 0) ((6 : Int32).toNatClampNeg) 0))), (l1, .inr (1, [.int 0, .ref a0, .int 0])), (l2, .inr (1, [.int 0, .ref a0, .int 0]))] H := hP
  have hD : va_D A [(m0, .inr (12, [.int 0, .ref l1, .ref l2, .int 0, .int 0, .int 0, .long s0])), (q_1, .inl (cy_2, 5, .inl (fun _ => 0))), (r_3, .inr (0, [.int 0, .int (-1), .int 0, .ref l1])), (q_6, .inl (cy_7, 11, .inl (upd (upd (upd (upd (upd (upd (upd (fun _ => 0) ((0 : Int32).toNatClampNeg) 0) ((1 : Int32).toNatClampNeg) 0) ((2 : Int32).toNatClampNeg) 0) ((3 : Int32).toNatClampNeg) 0) ((4 : Int32).toNatClampNeg) 0) ((5 : Int32).toNatClampNeg) 0) ((6 : Int32).toNatClampNeg) 0))), (l1, .inr (1, [.int 0, .ref a0, .int 0])), (l2, .inr (1, [.int 0, .ref a0, .int 0]))] := hD
  refine lv_dup hx hb dX10_manyNow_116 rfl ?_
  refine lv_bipush (v := 7) hx hb dX10_manyNow_117 (by decide) ?_
  refine lv_aload_n hx hb dX10_manyNow_119 rfl (lv_at hl 3 rfl) ?_
  refine va_get (D := (dC, dI)) (ci := 12) (v := .int 0) (C := RX10) (T := TX10) (N := 7) hx hb hts hiX10 hown hK hP 0 rfl rfl 3 (by decide) (hts (.fieldLink RX10 191 "HaltingaleModel" "given" "I") (by decide +kernel)) (fun _ h9 => h9) rfl dX10_manyNow_120 ?_
  refine va_iast hx hb hK hP hD hS 3 1 rfl rfl (by unfold vp_in; decide) dX10_manyNow_123 (fun H locs hP hD hS => ?_)
  have hP : va_P (dC, dI) vwCl [(m0, .inr (12, [.int 0, .ref l1, .ref l2, .int 0, .int 0, .int 0, .long s0])), (q_1, .inl (cy_2, 5, .inl (fun _ => 0))), (r_3, .inr (0, [.int 0, .int (-1), .int 0, .ref l1])), (q_6, .inl (cy_7, 11, .inl (upd (upd (upd (upd (upd (upd (upd (upd (fun _ => 0) ((0 : Int32).toNatClampNeg) 0) ((1 : Int32).toNatClampNeg) 0) ((2 : Int32).toNatClampNeg) 0) ((3 : Int32).toNatClampNeg) 0) ((4 : Int32).toNatClampNeg) 0) ((5 : Int32).toNatClampNeg) 0) ((6 : Int32).toNatClampNeg) 0) ((7 : Int32).toNatClampNeg) 0))), (l1, .inr (1, [.int 0, .ref a0, .int 0])), (l2, .inr (1, [.int 0, .ref a0, .int 0]))] H := hP
  have hD : va_D A [(m0, .inr (12, [.int 0, .ref l1, .ref l2, .int 0, .int 0, .int 0, .long s0])), (q_1, .inl (cy_2, 5, .inl (fun _ => 0))), (r_3, .inr (0, [.int 0, .int (-1), .int 0, .ref l1])), (q_6, .inl (cy_7, 11, .inl (upd (upd (upd (upd (upd (upd (upd (upd (fun _ => 0) ((0 : Int32).toNatClampNeg) 0) ((1 : Int32).toNatClampNeg) 0) ((2 : Int32).toNatClampNeg) 0) ((3 : Int32).toNatClampNeg) 0) ((4 : Int32).toNatClampNeg) 0) ((5 : Int32).toNatClampNeg) 0) ((6 : Int32).toNatClampNeg) 0) ((7 : Int32).toNatClampNeg) 0))), (l1, .inr (1, [.int 0, .ref a0, .int 0])), (l2, .inr (1, [.int 0, .ref a0, .int 0]))] := hD
  refine lv_dup hx hb dX10_manyNow_124 rfl ?_
  refine lv_bipush (v := 8) hx hb dX10_manyNow_125 (by decide) ?_
  refine lv_aload_n hx hb dX10_manyNow_127 rfl (lv_at hl 3 rfl) ?_
  refine va_get (D := (dC, dI)) (ci := 12) (v := .int 0) (C := RX10) (T := TX10) (N := 7) hx hb hts hiX10 hown hK hP 0 rfl rfl 4 (by decide) (hts (.fieldLink RX10 194 "HaltingaleModel" "taken" "I") (by decide +kernel)) (fun _ h9 => h9) rfl dX10_manyNow_128 ?_
  refine va_iast hx hb hK hP hD hS 3 1 rfl rfl (by unfold vp_in; decide) dX10_manyNow_131 (fun H locs hP hD hS => ?_)
  have hP : va_P (dC, dI) vwCl [(m0, .inr (12, [.int 0, .ref l1, .ref l2, .int 0, .int 0, .int 0, .long s0])), (q_1, .inl (cy_2, 5, .inl (fun _ => 0))), (r_3, .inr (0, [.int 0, .int (-1), .int 0, .ref l1])), (q_6, .inl (cy_7, 11, .inl (upd (upd (upd (upd (upd (upd (upd (upd (upd (fun _ => 0) ((0 : Int32).toNatClampNeg) 0) ((1 : Int32).toNatClampNeg) 0) ((2 : Int32).toNatClampNeg) 0) ((3 : Int32).toNatClampNeg) 0) ((4 : Int32).toNatClampNeg) 0) ((5 : Int32).toNatClampNeg) 0) ((6 : Int32).toNatClampNeg) 0) ((7 : Int32).toNatClampNeg) 0) ((8 : Int32).toNatClampNeg) 0))), (l1, .inr (1, [.int 0, .ref a0, .int 0])), (l2, .inr (1, [.int 0, .ref a0, .int 0]))] H := hP
  have hD : va_D A [(m0, .inr (12, [.int 0, .ref l1, .ref l2, .int 0, .int 0, .int 0, .long s0])), (q_1, .inl (cy_2, 5, .inl (fun _ => 0))), (r_3, .inr (0, [.int 0, .int (-1), .int 0, .ref l1])), (q_6, .inl (cy_7, 11, .inl (upd (upd (upd (upd (upd (upd (upd (upd (upd (fun _ => 0) ((0 : Int32).toNatClampNeg) 0) ((1 : Int32).toNatClampNeg) 0) ((2 : Int32).toNatClampNeg) 0) ((3 : Int32).toNatClampNeg) 0) ((4 : Int32).toNatClampNeg) 0) ((5 : Int32).toNatClampNeg) 0) ((6 : Int32).toNatClampNeg) 0) ((7 : Int32).toNatClampNeg) 0) ((8 : Int32).toNatClampNeg) 0))), (l1, .inr (1, [.int 0, .ref a0, .int 0])), (l2, .inr (1, [.int 0, .ref a0, .int 0]))] := hD
  refine lv_dup hx hb dX10_manyNow_132 rfl ?_
  refine lv_bipush (v := 9) hx hb dX10_manyNow_133 (by decide) ?_
  refine lv_aload_n hx hb dX10_manyNow_135 rfl (lv_at hl 3 rfl) ?_
  refine va_get (D := (dC, dI)) (ci := 12) (v := .int 0) (C := RX10) (T := TX10) (N := 7) hx hb hts hiX10 hown hK hP 0 rfl rfl 5 (by decide) (hts (.fieldLink RX10 67 "HaltingaleModel" "back" "I") (by decide +kernel)) (fun _ h9 => h9) rfl dX10_manyNow_136 ?_
  refine va_iast hx hb hK hP hD hS 3 1 rfl rfl (by unfold vp_in; decide) dX10_manyNow_139 (fun H locs hP hD hS => ?_)
  have hP : va_P (dC, dI) vwCl [(m0, .inr (12, [.int 0, .ref l1, .ref l2, .int 0, .int 0, .int 0, .long s0])), (q_1, .inl (cy_2, 5, .inl (fun _ => 0))), (r_3, .inr (0, [.int 0, .int (-1), .int 0, .ref l1])), (q_6, .inl (cy_7, 11, .inl (upd (upd (upd (upd (upd (upd (upd (upd (upd (upd (fun _ => 0) ((0 : Int32).toNatClampNeg) 0) ((1 : Int32).toNatClampNeg) 0) ((2 : Int32).toNatClampNeg) 0) ((3 : Int32).toNatClampNeg) 0) ((4 : Int32).toNatClampNeg) 0) ((5 : Int32).toNatClampNeg) 0) ((6 : Int32).toNatClampNeg) 0) ((7 : Int32).toNatClampNeg) 0) ((8 : Int32).toNatClampNeg) 0) ((9 : Int32).toNatClampNeg) 0))), (l1, .inr (1, [.int 0, .ref a0, .int 0])), (l2, .inr (1, [.int 0, .ref a0, .int 0]))] H := hP
  have hD : va_D A [(m0, .inr (12, [.int 0, .ref l1, .ref l2, .int 0, .int 0, .int 0, .long s0])), (q_1, .inl (cy_2, 5, .inl (fun _ => 0))), (r_3, .inr (0, [.int 0, .int (-1), .int 0, .ref l1])), (q_6, .inl (cy_7, 11, .inl (upd (upd (upd (upd (upd (upd (upd (upd (upd (upd (fun _ => 0) ((0 : Int32).toNatClampNeg) 0) ((1 : Int32).toNatClampNeg) 0) ((2 : Int32).toNatClampNeg) 0) ((3 : Int32).toNatClampNeg) 0) ((4 : Int32).toNatClampNeg) 0) ((5 : Int32).toNatClampNeg) 0) ((6 : Int32).toNatClampNeg) 0) ((7 : Int32).toNatClampNeg) 0) ((8 : Int32).toNatClampNeg) 0) ((9 : Int32).toNatClampNeg) 0))), (l1, .inr (1, [.int 0, .ref a0, .int 0])), (l2, .inr (1, [.int 0, .ref a0, .int 0]))] := hD
  refine lv_dup hx hb dX10_manyNow_140 rfl ?_
  refine lv_bipush (v := 10) hx hb dX10_manyNow_141 (by decide) ?_
  refine lv_iload_n hx hb dX10_manyNow_143 rfl (lv_at hl 1 rfl) ?_
  refine va_iast hx hb hK hP hD hS 3 1 rfl rfl (by unfold vp_in; decide) dX10_manyNow_144 (fun H locs hP hD hS => ?_)
  have hP : va_P (dC, dI) vwCl [(m0, .inr (12, [.int 0, .ref l1, .ref l2, .int 0, .int 0, .int 0, .long s0])), (q_1, .inl (cy_2, 5, .inl (fun _ => 0))), (r_3, .inr (0, [.int 0, .int (-1), .int 0, .ref l1])), (q_6, .inl (cy_7, 11, .inl (upd (upd (upd (upd (upd (upd (upd (upd (upd (upd (upd (fun _ => 0) ((0 : Int32).toNatClampNeg) 0) ((1 : Int32).toNatClampNeg) 0) ((2 : Int32).toNatClampNeg) 0) ((3 : Int32).toNatClampNeg) 0) ((4 : Int32).toNatClampNeg) 0) ((5 : Int32).toNatClampNeg) 0) ((6 : Int32).toNatClampNeg) 0) ((7 : Int32).toNatClampNeg) 0) ((8 : Int32).toNatClampNeg) 0) ((9 : Int32).toNatClampNeg) 0) ((10 : Int32).toNatClampNeg) 0))), (l1, .inr (1, [.int 0, .ref a0, .int 0])), (l2, .inr (1, [.int 0, .ref a0, .int 0]))] H := hP
  have hD : va_D A [(m0, .inr (12, [.int 0, .ref l1, .ref l2, .int 0, .int 0, .int 0, .long s0])), (q_1, .inl (cy_2, 5, .inl (fun _ => 0))), (r_3, .inr (0, [.int 0, .int (-1), .int 0, .ref l1])), (q_6, .inl (cy_7, 11, .inl (upd (upd (upd (upd (upd (upd (upd (upd (upd (upd (upd (fun _ => 0) ((0 : Int32).toNatClampNeg) 0) ((1 : Int32).toNatClampNeg) 0) ((2 : Int32).toNatClampNeg) 0) ((3 : Int32).toNatClampNeg) 0) ((4 : Int32).toNatClampNeg) 0) ((5 : Int32).toNatClampNeg) 0) ((6 : Int32).toNatClampNeg) 0) ((7 : Int32).toNatClampNeg) 0) ((8 : Int32).toNatClampNeg) 0) ((9 : Int32).toNatClampNeg) 0) ((10 : Int32).toNatClampNeg) 0))), (l1, .inr (1, [.int 0, .ref a0, .int 0])), (l2, .inr (1, [.int 0, .ref a0, .int 0]))] := hD
  refine lv_astore (lv' := [(4, .ref q_6), (3, .int 0), (2, .ref q_1), (0, .ref m0), (1, .int 4)]) hx hb dX10_manyNow_145 hl (by decide) rfl (fun ls hl => ?_)
  refine lv_aload hx hb dX10_manyNow_147 (lv_at hl 0 rfl) ?_
  refine lv_iload_n hx hb dX10_manyNow_149 rfl (lv_at hl 4 rfl) ?_
  refine va_iald hx hb hK hP 3 1 rfl rfl (by unfold vp_in; decide) dX10_manyNow_150 ?_
  refine lv_topi (fun x_26 ex_26 => ?_)
  obtain rfl : x_26 = 0 := ex_26.trans (by decide +kernel)
  have hP9 := hP.sub (ws' := [(m0, .inr (12, [.int 0, .ref l1, .ref l2, .int 0, .int 0, .int 0, .long s0])), (l1, .inr (1, [.int 0, .ref a0, .int 0])), (l2, .inr (1, [.int 0, .ref a0, .int 0]))]) [0, 4, 5] rfl
  have hD9 := hD.sub (ws' := [(m0, .inr (12, [.int 0, .ref l1, .ref l2, .int 0, .int 0, .int 0, .long s0])), (l1, .inr (1, [.int 0, .ref a0, .int 0])), (l2, .inr (1, [.int 0, .ref a0, .int 0]))]) [0, 4, 5] (by decide) rfl
  have hK9 := hK.sub (tys' := []) [] rfl
  refine W.widen (k := 3) (n := 20) (Nat.le_of_ble_eq_true rfl) (Nat.le_of_ble_eq_true rfl) ?_
  exact W.iret (v := 0) hx hb hr (fun t ht hW => ⟨⟨0, (), rfl, rfl, ⟨by rw [ht]; exact hP9, va_K.moved hW.alike hK9, hD9⟩⟩, hS.F ht⟩) hS.2.2 dX10_manyNow_151

def zs_c_X10_manyNow_5 : List Cond := .code yX10_manyNow cX10_manyNow 6 (some .int) :: (([.arrayClass .int, .fieldLink RX10 10 "HaltingaleModel" "machines" "Ljava/util/ArrayList;", .code yJx4a65c_iterator_32c93 cJx4a65c_iterator_32c93 1 (some (.object "java/util/Iterator")), .classLink RJx4a65c 267 RJx35411, .instantiable RJx35411 4, .initialized RJx35411, .code yJx35411_init_45d68 cJx35411_init_45d68 2 none, .fieldLink RJx35411 1 "java/util/ArrayList$Itr" "this$0" "Ljava/util/ArrayList;", .methodLink RJx35411 7 objectInit, .instanceMethod objectInit, .code objectInit ⟨#[0xb1]⟩ 1 none, .fieldLink RJx35411 13 "java/util/ArrayList$Itr" "lastRet" "I", .sameField "java/util/ArrayList" "java/util/AbstractList" "modCount" "I", .fieldLink RJx35411 17 "java/util/ArrayList" "modCount" "I", .fieldLink RJx35411 22 "java/util/ArrayList$Itr" "expectedModCount" "I", .methodLink RJx4a65c 269 yJx35411_init_45d68, .instanceMethod yJx35411_init_45d68, .methodLink RX10 158 yJx4a65c_iterator_32c93, .instanceMethod yJx4a65c_iterator_32c93, .initialized RJx4a65c, .selects RJx4a65c yJx4a65c_iterator_32c93 yJx4a65c_iterator_32c93, .code yJx35411_hasNext_aae02 cJx35411_hasNext_aae02 1 (some .boolean), .fieldLink RJx35411 25 "java/util/ArrayList$Itr" "cursor" "I", .methodLink RX10 162 ⟨"java/util/Iterator", "hasNext", "()Z"⟩, .instanceMethod yJx35411_hasNext_aae02, .selects RJx35411 ⟨"java/util/Iterator", "hasNext", "()Z"⟩ yJx35411_hasNext_aae02, .code yJx4a65c_size_8abf5 cJx4a65c_size_8abf5 1 (some .int), .fieldLink RJx4a65c 48 "java/util/ArrayList" "size" "I", .methodLink RX10 23 yJx4a65c_size_8abf5, .instanceMethod yJx4a65c_size_8abf5, .selects RJx4a65c yJx4a65c_size_8abf5 yJx4a65c_size_8abf5, .fieldLink RX10 16 "HaltingaleModel" "tags" "Ljava/util/ArrayList;", .fieldLink RX10 191 "HaltingaleModel" "given" "I", .fieldLink RX10 194 "HaltingaleModel" "taken" "I", .fieldLink RX10 67 "HaltingaleModel" "back" "I"] : List Cond) ++ wsX100 ++ wsJx354110 ++ wsJx4a65c0)
set_option maxHeartbeats 4000000 in
set_option maxRecDepth 100000 in
/-- manyNow of 5 -/
theorem c_X10_manyNow_5 (l : Launch) (hnt : l.stackTraces = false) (dC : Nat → ClassId) (dI : Nat → Nat → Nat) (a0 : Nat) (m0 : Nat) (l1 : Nat) (l2 : Nat) (s0 : Int64) (sz : Nat)  : Met l yX10_manyNow zs_c_X10_manyNow_5 ({ frames := 3, cells := 3, slots := 20, locals := 53 }) (va_Pc [.ref m0, .int 5] (fun U => U.heap.size = sz ∧ va_P (dC, dI) vwCl [(m0, .inr (12, [.int 0, .ref l1, .ref l2, .int 0, .int 0, .int 0, .long s0])), (l1, .inr (1, [.int 0, .ref a0, .int 0])), (l2, .inr (1, [.int 0, .ref a0, .int 0]))] U.heap ∧ va_K (dC, dI) vwCl [] U ∧ va_D (fun _ => True) [(m0, .inr (12, [.int 0, .ref l1, .ref l2, .int 0, .int 0, .int 0, .long s0])), (l1, .inr (1, [.int 0, .ref a0, .int 0])), (l2, .inr (1, [.int 0, .ref a0, .int 0]))] ∧ zB a0 (va_A [(m0, .inr (12, [.int 0, .ref l1, .ref l2, .int 0, .int 0, .int 0, .long s0])), (l1, .inr (1, [.int 0, .ref a0, .int 0])), (l2, .inr (1, [.int 0, .ref a0, .int 0]))] sz) U U.heap)) (va_Qi (fun (r : Int32) (_ : Unit) => r = 0) (fun _ t => va_P (dC, dI) vwCl [(m0, .inr (12, [.int 0, .ref l1, .ref l2, .int 0, .int 0, .int 0, .long s0])), (l1, .inr (1, [.int 0, .ref a0, .int 0])), (l2, .inr (1, [.int 0, .ref a0, .int 0]))] t.heap ∧ va_K (dC, dI) vwCl [] t ∧ va_D (va_A [(m0, .inr (12, [.int 0, .ref l1, .ref l2, .int 0, .int 0, .int 0, .long s0])), (l1, .inr (1, [.int 0, .ref a0, .int 0])), (l2, .inr (1, [.int 0, .ref a0, .int 0]))] sz) [(m0, .inr (12, [.int 0, .ref l1, .ref l2, .int 0, .int 0, .int 0, .long s0])), (l1, .inr (1, [.int 0, .ref a0, .int 0])), (l2, .inr (1, [.int 0, .ref a0, .int 0]))]) (va_A [(m0, .inr (12, [.int 0, .ref l1, .ref l2, .int 0, .int 0, .int 0, .long s0])), (l1, .inr (1, [.int 0, .ref a0, .int 0])), (l2, .inr (1, [.int 0, .ref a0, .int 0]))] sz)) 3 20 (va_A [(m0, .inr (12, [.int 0, .ref l1, .ref l2, .int 0, .int 0, .int 0, .long s0])), (l1, .inr (1, [.int 0, .ref a0, .int 0])), (l2, .inr (1, [.int 0, .ref a0, .int 0]))] sz) := by
  refine Met.ofW (cc := cX10_manyNow) (maxL := 6) (ret := (some .int)) (by decide) rfl ?_
  intro p e s m args below meth c s₁ B hml hv
  obtain ⟨rfl, hsz, hP, hK, hD0, hZ⟩ := hv
  have hx := B.exec
  have hb := B.bytes
  have hr := B.returns
  have hts := atoms_spec (ws := zs_c_X10_manyNow_5) B.pre
  have hown : s.vm.findClass RX10 = some m.cls := findClass_of_methodNamed B.named
  have hlocks := B.notSynchronized
  have hiX10 : ∀ w ∈ wsX100, w ∈ zs_c_X10_manyNow_5 := by decide +kernel
  subst hsz
  have hD := hD0.self (sz := s.heap.size)
  generalize hAe : va_A [(m0, .inr (12, [.int 0, .ref l1, .ref l2, .int 0, .int 0, .int 0, .long s0])), (l1, .inr (1, [.int 0, .ref a0, .int 0])), (l2, .inr (1, [.int 0, .ref a0, .int 0]))] s.heap.size = A at hD hZ ⊢
  have hA : ∀ q : Nat, s.heap.size ≤ q → A q := fun q h => by rw [← hAe]; exact Or.inr h
  have hS : va_S A s.heap s.heap [] := va_S.rf
  have hl := lv_entry ([.ref m0, .int 5]) (n := 6) (Nat.le_of_ble_eq_true rfl)
  rw [lg_entry_eq]
  generalize (lg_sl ([.ref m0, .int 5]) ++ List.replicate (6 - (lg_sl ([.ref m0, .int 5])).length) Slot.unset).toArray = ls at hl ⊢
  have hl : lv_has ls 6 [(0, .ref m0), (1, .int 5)] := hl
  refine lv_iconst (v := 5) hx hb dX10_manyNow_0 (by decide) ?_
  refine va_newa (atype := .int) (ty := .int) (N' := 5) (a0 := (5, .inl (fun _ => 0))) hx hb (hts (.arrayClass .int) (by decide +kernel)) rfl hK hP hD hS hA (fun _ => rfl) (by decide) (by decide) (Nat.le_of_ble_eq_true rfl) (Nat.le_of_ble_eq_true rfl) (Nat.le_of_ble_eq_true rfl) dX10_manyNow_1 (fun q_1 cy_2 H hK hP hD hS => ?_)
  have hK : va_K (dC, dI) vwCl [(cy_2, .int)] s := hK
  have hP : va_P (dC, dI) vwCl [(m0, .inr (12, [.int 0, .ref l1, .ref l2, .int 0, .int 0, .int 0, .long s0])), (l1, .inr (1, [.int 0, .ref a0, .int 0])), (l2, .inr (1, [.int 0, .ref a0, .int 0])), (q_1, .inl (cy_2, 5, .inl (fun _ => 0)))] H := hP
  have hD : va_D A [(m0, .inr (12, [.int 0, .ref l1, .ref l2, .int 0, .int 0, .int 0, .long s0])), (l1, .inr (1, [.int 0, .ref a0, .int 0])), (l2, .inr (1, [.int 0, .ref a0, .int 0])), (q_1, .inl (cy_2, 5, .inl (fun _ => 0)))] := hD
  refine W.widen (k := 1) (n := 5) (Nat.le_of_ble_eq_true rfl) (Nat.le_of_ble_eq_true rfl) ?_
  refine lv_astore_n (lv' := [(2, .ref q_1), (0, .ref m0), (1, .int 5)]) hx hb dX10_manyNow_3 rfl hl (by decide) rfl (fun ls hl => ?_)
  refine lv_iconst (v := 0) hx hb dX10_manyNow_4 (by decide) ?_
  refine lv_istore_n (lv' := [(3, .int 0), (2, .ref q_1), (0, .ref m0), (1, .int 5)]) hx hb dX10_manyNow_5 rfl hl (by decide) rfl (fun ls hl => ?_)
  refine lv_aload_n hx hb dX10_manyNow_6 rfl (lv_at hl 2 rfl) ?_
  refine va_get (D := (dC, dI)) (ci := 12) (v := .ref l1) (C := RX10) (T := TX10) (N := 7) hx hb hts hiX10 hown hK hP 0 rfl rfl 1 (by decide) (hts (.fieldLink RX10 10 "HaltingaleModel" "machines" "Ljava/util/ArrayList;") (by decide +kernel)) (fun _ h9 => h9) rfl dX10_manyNow_7 ?_
  have hPc := hP.sub (ws' := [(l1, .inr (1, [.int 0, .ref a0, .int 0]))]) [1] rfl
  have hDc := hD.sub (ws' := [(l1, .inr (1, [.int 0, .ref a0, .int 0]))]) [1] (by decide) rfl
  have hKc := hK.sub (tys' := []) [] rfl
  have hFc := va_free (wc := [(l1, .inr (1, [.int 0, .ref a0, .int 0]))]) hD hS hA [1] rfl
  have hZc := ((hZ.kept hS.2.1).narrow hFc)
  refine va_callr (va_runV (As := []) (rest := []) ⟨hx, hb, hml, hown, hts⟩ (c_Jx4a65c_iterator_32c93 l hnt dC dI a0 l1 H.size ) (cwV 0 hts (goodIn_of _ (by decide +kernel)) rfl rfl rfl (by decide +kernel) ⟨Nat.le_of_ble_eq_true rfl, Nat.le_of_ble_eq_true rfl⟩) ⟨fun a U g mk q => by obtain ⟨q0, q1, qP, qK, qD, qZ⟩ := q; exact ⟨q0, q1, qP, va_K.moved (u := U) (U := U.calling g mk a) (Vm.Alike.refl U.vm) qK, qD, qZ.call⟩, va_recv hKc hPc (ci := 1) (q0 := 0) rfl rfl, fun U hU hW => ⟨rfl, by rw [hU], by rw [hU]; exact hPc, va_K.moved hW.alike hKc, hDc.weaken (fun _ _ _ _ => trivial), by rw [hU]; exact hZc.warm hW⟩⟩ rfl rfl hl.1 rfl (lv_room (Nat.le_of_ble_eq_true rfl)) dX10_manyNow_10 ⟨Nat.le_of_ble_eq_true rfl, Nat.le_of_ble_eq_true rfl⟩) hS (fun q _ h => hFc q h) hFc (fun u r_3 t H1 locs ht hvm hw hB hz1 hk1 hS => ?_)
  obtain ⟨hP1, hK1, hD1⟩ := hB
  rw [ht] at hP1
  have hK1 := va_K.moved hvm.symm hK1
  obtain ⟨hP, hD⟩ := va_join (wr := [(m0, .inr (12, [.int 0, .ref l1, .ref l2, .int 0, .int 0, .int 0, .long s0])), (l2, .inr (1, [.int 0, .ref a0, .int 0])), (q_1, .inl (cy_2, 5, .inl (fun _ => 0)))]) (w1 := [(r_3, .inr (0, [.int 0, .int (-1), .int 0, .ref l1])), (l1, .inr (1, [.int 0, .ref a0, .int 0]))]) hP hD [1] [0, 2, 3] rfl rfl (by decide) (by decide) hk1 hFc hP1 hD1
  have hK := (hK.sub (tys' := [(cy_2, .int)]) [0] rfl).app hK1
  generalize H1 = H at hP hS ⊢
  have hP : va_P (dC, dI) vwCl [(m0, .inr (12, [.int 0, .ref l1, .ref l2, .int 0, .int 0, .int 0, .long s0])), (l2, .inr (1, [.int 0, .ref a0, .int 0])), (q_1, .inl (cy_2, 5, .inl (fun _ => 0))), (r_3, .inr (0, [.int 0, .int (-1), .int 0, .ref l1])), (l1, .inr (1, [.int 0, .ref a0, .int 0]))] H := hP
  have hD : va_D A [(m0, .inr (12, [.int 0, .ref l1, .ref l2, .int 0, .int 0, .int 0, .long s0])), (l2, .inr (1, [.int 0, .ref a0, .int 0])), (q_1, .inl (cy_2, 5, .inl (fun _ => 0))), (r_3, .inr (0, [.int 0, .int (-1), .int 0, .ref l1])), (l1, .inr (1, [.int 0, .ref a0, .int 0]))] := hD
  have hK : va_K (dC, dI) vwCl [(cy_2, .int)] s := hK
  refine W.widen (k := 2) (n := 9) (Nat.le_of_ble_eq_true rfl) (Nat.le_of_ble_eq_true rfl) ?_
  refine lv_astore (lv' := [(4, .ref r_3), (3, .int 0), (2, .ref q_1), (0, .ref m0), (1, .int 5)]) hx hb dX10_manyNow_13 hl (by decide) rfl (fun ls hl => ?_)
  refine lv_aload hx hb dX10_manyNow_15 (lv_at hl 0 rfl) ?_
  have hPc := hP.sub (ws' := [(r_3, .inr (0, [.int 0, .int (-1), .int 0, .ref l1])), (l1, .inr (1, [.int 0, .ref a0, .int 0]))]) [3, 4] rfl
  have hDc := hD.sub (ws' := [(r_3, .inr (0, [.int 0, .int (-1), .int 0, .ref l1])), (l1, .inr (1, [.int 0, .ref a0, .int 0]))]) [3, 4] (by decide) rfl
  have hKc := hK.sub (tys' := []) [] rfl
  have hFc := va_free (wc := [(r_3, .inr (0, [.int 0, .int (-1), .int 0, .ref l1])), (l1, .inr (1, [.int 0, .ref a0, .int 0]))]) hD hS hA [3, 4] rfl
  have hZc := ((hZ.kept hS.2.1).narrow hFc)
  refine va_callFi (va_runF (As := []) (rest := []) (zz_at hK 0 rfl) ⟨hx, hb, hml, hown, hts⟩ (c_Jx35411_hasNext_aae02 l hnt dC dI a0 r_3 l1 H.size ) (va_cwF 0 hts (goodIn_of _ (by decide +kernel)) rfl rfl rfl hZ.fwN (by decide +kernel) ⟨Nat.le_of_ble_eq_true rfl, Nat.le_of_ble_eq_true rfl⟩) ⟨fun a U g mk q => by obtain ⟨q0, q1, qP, qK, qD, qZ⟩ := q; exact ⟨q0, q1, qP, va_K.moved (u := U) (U := U.calling g mk a) (Vm.Alike.refl U.vm) qK, qD, qZ.call⟩, va_recv hKc hPc (ci := 0) (q0 := 0) rfl rfl, fun U hU hW => ⟨rfl, by rw [hU], by rw [hU]; exact hPc, va_K.moved hW.alike hKc, hDc.weaken (fun _ _ _ _ => trivial), by rw [hU]; exact hZc.warm hW⟩⟩ rfl rfl hl.1 rfl (lv_room (Nat.le_of_ble_eq_true rfl)) dX10_manyNow_17 ⟨Nat.le_of_ble_eq_true rfl, Nat.le_of_ble_eq_true rfl⟩) hS (fun q _ h => hFc q h) hFc (fun r_4 u t H1 locs ht hvm hw hB hz1 hk1 hS => ?_)
  obtain ⟨hP1, hK1, hD1⟩ := hB
  rw [ht] at hP1
  have hK1 := va_K.moved hvm.symm hK1
  obtain ⟨hP, hD⟩ := va_join (wr := [(m0, .inr (12, [.int 0, .ref l1, .ref l2, .int 0, .int 0, .int 0, .long s0])), (l2, .inr (1, [.int 0, .ref a0, .int 0])), (q_1, .inl (cy_2, 5, .inl (fun _ => 0)))]) (w1 := [(r_3, .inr (0, [.int 0, .int (-1), .int 0, .ref l1])), (l1, .inr (1, [.int 0, .ref a0, .int 0]))]) hP hD [3, 4] [0, 1, 2] rfl rfl (by decide) (by decide) hk1 hFc hP1 hD1
  have hK := (hK.sub (tys' := [(cy_2, .int)]) [0] rfl).app hK1
  generalize H1 = H at hP hS ⊢
  have hP : va_P (dC, dI) vwCl [(m0, .inr (12, [.int 0, .ref l1, .ref l2, .int 0, .int 0, .int 0, .long s0])), (l2, .inr (1, [.int 0, .ref a0, .int 0])), (q_1, .inl (cy_2, 5, .inl (fun _ => 0))), (r_3, .inr (0, [.int 0, .int (-1), .int 0, .ref l1])), (l1, .inr (1, [.int 0, .ref a0, .int 0]))] H := hP
  have hD : va_D A [(m0, .inr (12, [.int 0, .ref l1, .ref l2, .int 0, .int 0, .int 0, .long s0])), (l2, .inr (1, [.int 0, .ref a0, .int 0])), (q_1, .inl (cy_2, 5, .inl (fun _ => 0))), (r_3, .inr (0, [.int 0, .int (-1), .int 0, .ref l1])), (l1, .inr (1, [.int 0, .ref a0, .int 0]))] := hD
  have hK : va_K (dC, dI) vwCl [(cy_2, .int)] s := hK
  refine W.widen (k := 2) (n := 9) (Nat.le_of_ble_eq_true rfl) (Nat.le_of_ble_eq_true rfl) ?_
  obtain rfl : r_4 = 0 := hw
  refine lv_if_eq (tgt := 61) hx hb dX10_manyNow_22 (by decide) (fun c_5 => ?_) (fun c_5 => ?_)
  rotate_left
  · (first | exact absurd c_5 (by decide) | exact absurd (by decide) c_5)
  refine lv_bipush (v := 11) hx hb dX10_manyNow_61 (by decide) ?_
  refine va_newa (atype := .int) (ty := .int) (N' := 11) (a0 := (11, .inl (fun _ => 0))) hx hb (hts (.arrayClass .int) (by decide +kernel)) rfl hK hP hD hS hA (fun _ => rfl) (by decide) (by decide) (Nat.le_of_ble_eq_true rfl) (Nat.le_of_ble_eq_true rfl) (Nat.le_of_ble_eq_true rfl) dX10_manyNow_63 (fun q_6 cy_7 H hK hP hD hS => ?_)
  have hK : va_K (dC, dI) vwCl [(cy_2, .int), (cy_7, .int)] s := hK
  have hP : va_P (dC, dI) vwCl [(m0, .inr (12, [.int 0, .ref l1, .ref l2, .int 0, .int 0, .int 0, .long s0])), (l2, .inr (1, [.int 0, .ref a0, .int 0])), (q_1, .inl (cy_2, 5, .inl (fun _ => 0))), (r_3, .inr (0, [.int 0, .int (-1), .int 0, .ref l1])), (l1, .inr (1, [.int 0, .ref a0, .int 0])), (q_6, .inl (cy_7, 11, .inl (fun _ => 0)))] H := hP
  have hD : va_D A [(m0, .inr (12, [.int 0, .ref l1, .ref l2, .int 0, .int 0, .int 0, .long s0])), (l2, .inr (1, [.int 0, .ref a0, .int 0])), (q_1, .inl (cy_2, 5, .inl (fun _ => 0))), (r_3, .inr (0, [.int 0, .int (-1), .int 0, .ref l1])), (l1, .inr (1, [.int 0, .ref a0, .int 0])), (q_6, .inl (cy_7, 11, .inl (fun _ => 0)))] := hD
  refine W.widen (k := 3) (n := 20) (Nat.le_of_ble_eq_true rfl) (Nat.le_of_ble_eq_true rfl) ?_
  refine lv_dup hx hb dX10_manyNow_65 rfl ?_
  refine lv_iconst (v := 0) hx hb dX10_manyNow_66 (by decide) ?_
  refine lv_aload_n hx hb dX10_manyNow_67 rfl (lv_at hl 3 rfl) ?_
  refine va_get (D := (dC, dI)) (ci := 12) (v := .ref l1) (C := RX10) (T := TX10) (N := 7) hx hb hts hiX10 hown hK hP 0 rfl rfl 1 (by decide) (hts (.fieldLink RX10 10 "HaltingaleModel" "machines" "Ljava/util/ArrayList;") (by decide +kernel)) (fun _ h9 => h9) rfl dX10_manyNow_68 ?_
  have hPc := hP.sub (ws' := [(l1, .inr (1, [.int 0, .ref a0, .int 0]))]) [4] rfl
  have hDc := hD.sub (ws' := [(l1, .inr (1, [.int 0, .ref a0, .int 0]))]) [4] (by decide) rfl
  have hKc := hK.sub (tys' := []) [] rfl
  have hFc := va_free (wc := [(l1, .inr (1, [.int 0, .ref a0, .int 0]))]) hD hS hA [4] rfl
  have hZc := ((hZ.kept hS.2.1).narrow hFc)
  refine va_calli (va_runV (As := []) (rest := [.int 0, .ref q_6, .ref q_6]) ⟨hx, hb, hml, hown, hts⟩ (c_Jx4a65c_size_8abf5 l hnt dC dI a0 l1 0 a0 0 H.size ) (cwV 0 hts (goodIn_of _ (by decide +kernel)) rfl rfl rfl (by decide +kernel) ⟨Nat.le_of_ble_eq_true rfl, Nat.le_of_ble_eq_true rfl⟩) ⟨fun a U g mk q => by obtain ⟨q0, q1, qP, qK, qD, qZ⟩ := q; exact ⟨q0, q1, qP, va_K.moved (u := U) (U := U.calling g mk a) (Vm.Alike.refl U.vm) qK, qD, qZ.call⟩, va_recv hKc hPc (ci := 1) (q0 := 0) rfl rfl, fun U hU hW => ⟨rfl, by rw [hU], by rw [hU]; exact hPc, va_K.moved hW.alike hKc, hDc.weaken (fun _ _ _ _ => trivial), by rw [hU]; exact hZc.warm hW⟩⟩ rfl rfl hl.1 rfl (lv_room (Nat.le_of_ble_eq_true rfl)) dX10_manyNow_71 ⟨Nat.le_of_ble_eq_true rfl, Nat.le_of_ble_eq_true rfl⟩) hS (fun q _ h => hFc q h) hFc (fun r_8 u t H1 locs ht hvm hw hB hz1 hk1 hS => ?_)
  obtain ⟨hP1, hK1, hD1⟩ := hB
  rw [ht] at hP1
  have hK1 := va_K.moved hvm.symm hK1
  obtain ⟨hP, hD⟩ := va_join (wr := [(m0, .inr (12, [.int 0, .ref l1, .ref l2, .int 0, .int 0, .int 0, .long s0])), (l2, .inr (1, [.int 0, .ref a0, .int 0])), (q_1, .inl (cy_2, 5, .inl (fun _ => 0))), (r_3, .inr (0, [.int 0, .int (-1), .int 0, .ref l1])), (q_6, .inl (cy_7, 11, .inl (fun _ => 0)))]) (w1 := [(l1, .inr (1, [.int 0, .ref a0, .int 0]))]) hP hD [4] [0, 1, 2, 3, 5] rfl rfl (by decide) (by decide) hk1 hFc hP1 hD1
  have hK := (hK.sub (tys' := [(cy_2, .int), (cy_7, .int)]) [0, 1] rfl).app hK1
  generalize H1 = H at hP hS ⊢
  have hP : va_P (dC, dI) vwCl [(m0, .inr (12, [.int 0, .ref l1, .ref l2, .int 0, .int 0, .int 0, .long s0])), (l2, .inr (1, [.int 0, .ref a0, .int 0])), (q_1, .inl (cy_2, 5, .inl (fun _ => 0))), (r_3, .inr (0, [.int 0, .int (-1), .int 0, .ref l1])), (q_6, .inl (cy_7, 11, .inl (fun _ => 0))), (l1, .inr (1, [.int 0, .ref a0, .int 0]))] H := hP
  have hD : va_D A [(m0, .inr (12, [.int 0, .ref l1, .ref l2, .int 0, .int 0, .int 0, .long s0])), (l2, .inr (1, [.int 0, .ref a0, .int 0])), (q_1, .inl (cy_2, 5, .inl (fun _ => 0))), (r_3, .inr (0, [.int 0, .int (-1), .int 0, .ref l1])), (q_6, .inl (cy_7, 11, .inl (fun _ => 0))), (l1, .inr (1, [.int 0, .ref a0, .int 0]))] := hD
  have hK : va_K (dC, dI) vwCl [(cy_2, .int), (cy_7, .int)] s := hK
  refine W.widen (k := 3) (n := 20) (Nat.le_of_ble_eq_true rfl) (Nat.le_of_ble_eq_true rfl) ?_
  obtain rfl : r_8 = 0 := hw
  refine va_iast hx hb hK hP hD hS 4 1 rfl rfl (by unfold vp_in; decide) dX10_manyNow_74 (fun H locs hP hD hS => ?_)
  have hP : va_P (dC, dI) vwCl [(m0, .inr (12, [.int 0, .ref l1, .ref l2, .int 0, .int 0, .int 0, .long s0])), (l2, .inr (1, [.int 0, .ref a0, .int 0])), (q_1, .inl (cy_2, 5, .inl (fun _ => 0))), (r_3, .inr (0, [.int 0, .int (-1), .int 0, .ref l1])), (q_6, .inl (cy_7, 11, .inl (upd (fun _ => 0) ((0 : Int32).toNatClampNeg) 0))), (l1, .inr (1, [.int 0, .ref a0, .int 0]))] H := hP
  have hD : va_D A [(m0, .inr (12, [.int 0, .ref l1, .ref l2, .int 0, .int 0, .int 0, .long s0])), (l2, .inr (1, [.int 0, .ref a0, .int 0])), (q_1, .inl (cy_2, 5, .inl (fun _ => 0))), (r_3, .inr (0, [.int 0, .int (-1), .int 0, .ref l1])), (q_6, .inl (cy_7, 11, .inl (upd (fun _ => 0) ((0 : Int32).toNatClampNeg) 0))), (l1, .inr (1, [.int 0, .ref a0, .int 0]))] := hD
  refine lv_dup hx hb dX10_manyNow_75 rfl ?_
  refine lv_iconst (v := 1) hx hb dX10_manyNow_76 (by decide) ?_
  refine lv_aload_n hx hb dX10_manyNow_77 rfl (lv_at hl 2 rfl) ?_
  refine lv_iconst (v := 0) hx hb dX10_manyNow_78 (by decide) ?_
  refine va_iald hx hb hK hP 2 0 rfl rfl (by unfold vp_in; decide) dX10_manyNow_79 ?_
  refine lv_topi (fun x_10 ex_10 => ?_)
  obtain rfl : x_10 = 0 := ex_10.trans (by decide +kernel)
  refine va_iast hx hb hK hP hD hS 4 1 rfl rfl (by unfold vp_in; decide) dX10_manyNow_80 (fun H locs hP hD hS => ?_)
  have hP : va_P (dC, dI) vwCl [(m0, .inr (12, [.int 0, .ref l1, .ref l2, .int 0, .int 0, .int 0, .long s0])), (l2, .inr (1, [.int 0, .ref a0, .int 0])), (q_1, .inl (cy_2, 5, .inl (fun _ => 0))), (r_3, .inr (0, [.int 0, .int (-1), .int 0, .ref l1])), (q_6, .inl (cy_7, 11, .inl (upd (upd (fun _ => 0) ((0 : Int32).toNatClampNeg) 0) ((1 : Int32).toNatClampNeg) 0))), (l1, .inr (1, [.int 0, .ref a0, .int 0]))] H := hP
  have hD : va_D A [(m0, .inr (12, [.int 0, .ref l1, .ref l2, .int 0, .int 0, .int 0, .long s0])), (l2, .inr (1, [.int 0, .ref a0, .int 0])), (q_1, .inl (cy_2, 5, .inl (fun _ => 0))), (r_3, .inr (0, [.int 0, .int (-1), .int 0, .ref l1])), (q_6, .inl (cy_7, 11, .inl (upd (upd (fun _ => 0) ((0 : Int32).toNatClampNeg) 0) ((1 : Int32).toNatClampNeg) 0))), (l1, .inr (1, [.int 0, .ref a0, .int 0]))] := hD
  refine lv_dup hx hb dX10_manyNow_81 rfl ?_
  refine lv_iconst (v := 2) hx hb dX10_manyNow_82 (by decide) ?_
  refine lv_aload_n hx hb dX10_manyNow_83 rfl (lv_at hl 2 rfl) ?_
  refine lv_iconst (v := 1) hx hb dX10_manyNow_84 (by decide) ?_
  refine va_iald hx hb hK hP 2 0 rfl rfl (by unfold vp_in; decide) dX10_manyNow_85 ?_
  refine lv_topi (fun x_12 ex_12 => ?_)
  obtain rfl : x_12 = 0 := ex_12.trans (by decide +kernel)
  refine va_iast hx hb hK hP hD hS 4 1 rfl rfl (by unfold vp_in; decide) dX10_manyNow_86 (fun H locs hP hD hS => ?_)
  have hP : va_P (dC, dI) vwCl [(m0, .inr (12, [.int 0, .ref l1, .ref l2, .int 0, .int 0, .int 0, .long s0])), (l2, .inr (1, [.int 0, .ref a0, .int 0])), (q_1, .inl (cy_2, 5, .inl (fun _ => 0))), (r_3, .inr (0, [.int 0, .int (-1), .int 0, .ref l1])), (q_6, .inl (cy_7, 11, .inl (upd (upd (upd (fun _ => 0) ((0 : Int32).toNatClampNeg) 0) ((1 : Int32).toNatClampNeg) 0) ((2 : Int32).toNatClampNeg) 0))), (l1, .inr (1, [.int 0, .ref a0, .int 0]))] H := hP
  have hD : va_D A [(m0, .inr (12, [.int 0, .ref l1, .ref l2, .int 0, .int 0, .int 0, .long s0])), (l2, .inr (1, [.int 0, .ref a0, .int 0])), (q_1, .inl (cy_2, 5, .inl (fun _ => 0))), (r_3, .inr (0, [.int 0, .int (-1), .int 0, .ref l1])), (q_6, .inl (cy_7, 11, .inl (upd (upd (upd (fun _ => 0) ((0 : Int32).toNatClampNeg) 0) ((1 : Int32).toNatClampNeg) 0) ((2 : Int32).toNatClampNeg) 0))), (l1, .inr (1, [.int 0, .ref a0, .int 0]))] := hD
  refine lv_dup hx hb dX10_manyNow_87 rfl ?_
  refine lv_iconst (v := 3) hx hb dX10_manyNow_88 (by decide) ?_
  refine lv_aload_n hx hb dX10_manyNow_89 rfl (lv_at hl 2 rfl) ?_
  refine lv_iconst (v := 2) hx hb dX10_manyNow_90 (by decide) ?_
  refine va_iald hx hb hK hP 2 0 rfl rfl (by unfold vp_in; decide) dX10_manyNow_91 ?_
  refine lv_topi (fun x_14 ex_14 => ?_)
  obtain rfl : x_14 = 0 := ex_14.trans (by decide +kernel)
  refine va_iast hx hb hK hP hD hS 4 1 rfl rfl (by unfold vp_in; decide) dX10_manyNow_92 (fun H locs hP hD hS => ?_)
  have hP : va_P (dC, dI) vwCl [(m0, .inr (12, [.int 0, .ref l1, .ref l2, .int 0, .int 0, .int 0, .long s0])), (l2, .inr (1, [.int 0, .ref a0, .int 0])), (q_1, .inl (cy_2, 5, .inl (fun _ => 0))), (r_3, .inr (0, [.int 0, .int (-1), .int 0, .ref l1])), (q_6, .inl (cy_7, 11, .inl (upd (upd (upd (upd (fun _ => 0) ((0 : Int32).toNatClampNeg) 0) ((1 : Int32).toNatClampNeg) 0) ((2 : Int32).toNatClampNeg) 0) ((3 : Int32).toNatClampNeg) 0))), (l1, .inr (1, [.int 0, .ref a0, .int 0]))] H := hP
  have hD : va_D A [(m0, .inr (12, [.int 0, .ref l1, .ref l2, .int 0, .int 0, .int 0, .long s0])), (l2, .inr (1, [.int 0, .ref a0, .int 0])), (q_1, .inl (cy_2, 5, .inl (fun _ => 0))), (r_3, .inr (0, [.int 0, .int (-1), .int 0, .ref l1])), (q_6, .inl (cy_7, 11, .inl (upd (upd (upd (upd (fun _ => 0) ((0 : Int32).toNatClampNeg) 0) ((1 : Int32).toNatClampNeg) 0) ((2 : Int32).toNatClampNeg) 0) ((3 : Int32).toNatClampNeg) 0))), (l1, .inr (1, [.int 0, .ref a0, .int 0]))] := hD
  refine lv_dup hx hb dX10_manyNow_93 rfl ?_
  refine lv_iconst (v := 4) hx hb dX10_manyNow_94 (by decide) ?_
  refine lv_aload_n hx hb dX10_manyNow_95 rfl (lv_at hl 2 rfl) ?_
  refine lv_iconst (v := 3) hx hb dX10_manyNow_96 (by decide) ?_
  refine va_iald hx hb hK hP 2 0 rfl rfl (by unfold vp_in; decide) dX10_manyNow_97 ?_
  refine lv_topi (fun x_16 ex_16 => ?_)
  obtain rfl : x_16 = 0 := ex_16.trans (by decide +kernel)
  refine va_iast hx hb hK hP hD hS 4 1 rfl rfl (by unfold vp_in; decide) dX10_manyNow_98 (fun H locs hP hD hS => ?_)
  have hP : va_P (dC, dI) vwCl [(m0, .inr (12, [.int 0, .ref l1, .ref l2, .int 0, .int 0, .int 0, .long s0])), (l2, .inr (1, [.int 0, .ref a0, .int 0])), (q_1, .inl (cy_2, 5, .inl (fun _ => 0))), (r_3, .inr (0, [.int 0, .int (-1), .int 0, .ref l1])), (q_6, .inl (cy_7, 11, .inl (upd (upd (upd (upd (upd (fun _ => 0) ((0 : Int32).toNatClampNeg) 0) ((1 : Int32).toNatClampNeg) 0) ((2 : Int32).toNatClampNeg) 0) ((3 : Int32).toNatClampNeg) 0) ((4 : Int32).toNatClampNeg) 0))), (l1, .inr (1, [.int 0, .ref a0, .int 0]))] H := hP
  have hD : va_D A [(m0, .inr (12, [.int 0, .ref l1, .ref l2, .int 0, .int 0, .int 0, .long s0])), (l2, .inr (1, [.int 0, .ref a0, .int 0])), (q_1, .inl (cy_2, 5, .inl (fun _ => 0))), (r_3, .inr (0, [.int 0, .int (-1), .int 0, .ref l1])), (q_6, .inl (cy_7, 11, .inl (upd (upd (upd (upd (upd (fun _ => 0) ((0 : Int32).toNatClampNeg) 0) ((1 : Int32).toNatClampNeg) 0) ((2 : Int32).toNatClampNeg) 0) ((3 : Int32).toNatClampNeg) 0) ((4 : Int32).toNatClampNeg) 0))), (l1, .inr (1, [.int 0, .ref a0, .int 0]))] := hD
  refine lv_dup hx hb dX10_manyNow_99 rfl ?_
  refine lv_iconst (v := 5) hx hb dX10_manyNow_100 (by decide) ?_
  refine lv_aload_n hx hb dX10_manyNow_101 rfl (lv_at hl 2 rfl) ?_
  refine lv_iconst (v := 4) hx hb dX10_manyNow_102 (by decide) ?_
  refine va_iald hx hb hK hP 2 0 rfl rfl (by unfold vp_in; decide) dX10_manyNow_103 ?_
  refine lv_topi (fun x_18 ex_18 => ?_)
  obtain rfl : x_18 = 0 := ex_18.trans (by decide +kernel)
  refine va_iast hx hb hK hP hD hS 4 1 rfl rfl (by unfold vp_in; decide) dX10_manyNow_104 (fun H locs hP hD hS => ?_)
  have hP : va_P (dC, dI) vwCl [(m0, .inr (12, [.int 0, .ref l1, .ref l2, .int 0, .int 0, .int 0, .long s0])), (l2, .inr (1, [.int 0, .ref a0, .int 0])), (q_1, .inl (cy_2, 5, .inl (fun _ => 0))), (r_3, .inr (0, [.int 0, .int (-1), .int 0, .ref l1])), (q_6, .inl (cy_7, 11, .inl (upd (upd (upd (upd (upd (upd (fun _ => 0) ((0 : Int32).toNatClampNeg) 0) ((1 : Int32).toNatClampNeg) 0) ((2 : Int32).toNatClampNeg) 0) ((3 : Int32).toNatClampNeg) 0) ((4 : Int32).toNatClampNeg) 0) ((5 : Int32).toNatClampNeg) 0))), (l1, .inr (1, [.int 0, .ref a0, .int 0]))] H := hP
  have hD : va_D A [(m0, .inr (12, [.int 0, .ref l1, .ref l2, .int 0, .int 0, .int 0, .long s0])), (l2, .inr (1, [.int 0, .ref a0, .int 0])), (q_1, .inl (cy_2, 5, .inl (fun _ => 0))), (r_3, .inr (0, [.int 0, .int (-1), .int 0, .ref l1])), (q_6, .inl (cy_7, 11, .inl (upd (upd (upd (upd (upd (upd (fun _ => 0) ((0 : Int32).toNatClampNeg) 0) ((1 : Int32).toNatClampNeg) 0) ((2 : Int32).toNatClampNeg) 0) ((3 : Int32).toNatClampNeg) 0) ((4 : Int32).toNatClampNeg) 0) ((5 : Int32).toNatClampNeg) 0))), (l1, .inr (1, [.int 0, .ref a0, .int 0]))] := hD
  refine lv_dup hx hb dX10_manyNow_105 rfl ?_
  refine lv_bipush (v := 6) hx hb dX10_manyNow_106 (by decide) ?_
  refine lv_aload_n hx hb dX10_manyNow_108 rfl (lv_at hl 3 rfl) ?_
  refine va_get (D := (dC, dI)) (ci := 12) (v := .ref l2) (C := RX10) (T := TX10) (N := 7) hx hb hts hiX10 hown hK hP 0 rfl rfl 2 (by decide) (hts (.fieldLink RX10 16 "HaltingaleModel" "tags" "Ljava/util/ArrayList;") (by decide +kernel)) (fun _ h9 => h9) rfl dX10_manyNow_109 ?_
  have hPc := hP.sub (ws' := [(l2, .inr (1, [.int 0, .ref a0, .int 0]))]) [1] rfl
  have hDc := hD.sub (ws' := [(l2, .inr (1, [.int 0, .ref a0, .int 0]))]) [1] (by decide) rfl
  have hKc := hK.sub (tys' := []) [] rfl
  have hFc := va_free (wc := [(l2, .inr (1, [.int 0, .ref a0, .int 0]))]) hD hS hA [1] rfl
  have hZc := ((hZ.kept hS.2.1).narrow hFc)
  refine va_calli (va_runV (As := []) (rest := [.int 6, .ref q_6, .ref q_6]) ⟨hx, hb, hml, hown, hts⟩ (c_Jx4a65c_size_8abf5 l hnt dC dI a0 l2 0 a0 0 H.size ) (cwV 0 hts (goodIn_of _ (by decide +kernel)) rfl rfl rfl (by decide +kernel) ⟨Nat.le_of_ble_eq_true rfl, Nat.le_of_ble_eq_true rfl⟩) ⟨fun a U g mk q => by obtain ⟨q0, q1, qP, qK, qD, qZ⟩ := q; exact ⟨q0, q1, qP, va_K.moved (u := U) (U := U.calling g mk a) (Vm.Alike.refl U.vm) qK, qD, qZ.call⟩, va_recv hKc hPc (ci := 1) (q0 := 0) rfl rfl, fun U hU hW => ⟨rfl, by rw [hU], by rw [hU]; exact hPc, va_K.moved hW.alike hKc, hDc.weaken (fun _ _ _ _ => trivial), by rw [hU]; exact hZc.warm hW⟩⟩ rfl rfl hl.1 rfl (lv_room (Nat.le_of_ble_eq_true rfl)) dX10_manyNow_112 ⟨Nat.le_of_ble_eq_true rfl, Nat.le_of_ble_eq_true rfl⟩) hS (fun q _ h => hFc q h) hFc (fun r_20 u t H1 locs ht hvm hw hB hz1 hk1 hS => ?_)
  obtain ⟨hP1, hK1, hD1⟩ := hB
  rw [ht] at hP1
  have hK1 := va_K.moved hvm.symm hK1
  obtain ⟨hP, hD⟩ := va_join (wr := [(m0, .inr (12, [.int 0, .ref l1, .ref l2, .int 0, .int 0, .int 0, .long s0])), (q_1, .inl (cy_2, 5, .inl (fun _ => 0))), (r_3, .inr (0, [.int 0, .int (-1), .int 0, .ref l1])), (q_6, .inl (cy_7, 11, .inl (upd (upd (upd (upd (upd (upd (fun _ => 0) ((0 : Int32).toNatClampNeg) 0) ((1 : Int32).toNatClampNeg) 0) ((2 : Int32).toNatClampNeg) 0) ((3 : Int32).toNatClampNeg) 0) ((4 : Int32).toNatClampNeg) 0) ((5 : Int32).toNatClampNeg) 0))), (l1, .inr (1, [.int 0, .ref a0, .int 0]))]) (w1 := [(l2, .inr (1, [.int 0, .ref a0, .int 0]))]) hP hD [1] [0, 2, 3, 4, 5] rfl rfl (by decide) (by decide) hk1 hFc hP1 hD1
  have hK := (hK.sub (tys' := [(cy_2, .int), (cy_7, .int)]) [0, 1] rfl).app hK1
  generalize H1 = H at hP hS ⊢
  have hP : va_P (dC, dI) vwCl [(m0, .inr (12, [.int 0, .ref l1, .ref l2, .int 0, .int 0, .int 0, .long s0])), (q_1, .inl (cy_2, 5, .inl (fun _ => 0))), (r_3, .inr (0, [.int 0, .int (-1), .int 0, .ref l1])), (q_6, .inl (cy_7, 11, .inl (upd (upd (upd (upd (upd (upd (fun _ => 0) ((0 : Int32).toNatClampNeg) 0) ((1 : Int32).toNatClampNeg) 0) ((2 : Int32).toNatClampNeg) 0) ((3 : Int32).toNatClampNeg) 0) ((4 : Int32).toNatClampNeg) 0) ((5 : Int32).toNatClampNeg) 0))), (l1, .inr (1, [.int 0, .ref a0, .int 0])), (l2, .inr (1, [.int 0, .ref a0, .int 0]))] H := hP
  have hD : va_D A [(m0, .inr (12, [.int 0, .ref l1, .ref l2, .int 0, .int 0, .int 0, .long s0])), (q_1, .inl (cy_2, 5, .inl (fun _ => 0))), (r_3, .inr (0, [.int 0, .int (-1), .int 0, .ref l1])), (q_6, .inl (cy_7, 11, .inl (upd (upd (upd (upd (upd (upd (fun _ => 0) ((0 : Int32).toNatClampNeg) 0) ((1 : Int32).toNatClampNeg) 0) ((2 : Int32).toNatClampNeg) 0) ((3 : Int32).toNatClampNeg) 0) ((4 : Int32).toNatClampNeg) 0) ((5 : Int32).toNatClampNeg) 0))), (l1, .inr (1, [.int 0, .ref a0, .int 0])), (l2, .inr (1, [.int 0, .ref a0, .int 0]))] := hD
  have hK : va_K (dC, dI) vwCl [(cy_2, .int), (cy_7, .int)] s := hK
  refine W.widen (k := 3) (n := 20) (Nat.le_of_ble_eq_true rfl) (Nat.le_of_ble_eq_true rfl) ?_
  obtain rfl : r_20 = 0 := hw
  refine va_iast hx hb hK hP hD hS 3 1 rfl rfl (by unfold vp_in; decide) dX10_manyNow_115 (fun H locs hP hD hS => ?_)
  have hP : va_P (dC, dI) vwCl [(m0, .inr (12, [.int 0, .ref l1, .ref l2, .int 0, .int 0, .int 0, .long s0])), (q_1, .inl (cy_2, 5, .inl (fun _ => 0))), (r_3, .inr (0, [.int 0, .int (-1), .int 0, .ref l1])), (q_6, .inl (cy_7, 11, .inl (upd (upd (upd (upd (upd (upd (upd (fun _ => 0) ((0 : Int32).toNatClampNeg) 0) ((1 : Int32).toNatClampNeg) 0) ((2 : Int32).toNatClampNeg) 0) ((3 : Int32).toNatClampNeg) 0) ((4 : Int32).toNatClampNeg) 0) ((5 : Int32).toNatClampNeg) 0) ((6 : Int32).toNatClampNeg) 0))), (l1, .inr (1, [.int 0, .ref a0, .int 0])), (l2, .inr (1, [.int 0, .ref a0, .int 0]))] H := hP
  have hD : va_D A [(m0, .inr (12, [.int 0, .ref l1, .ref l2, .int 0, .int 0, .int 0, .long s0])), (q_1, .inl (cy_2, 5, .inl (fun _ => 0))), (r_3, .inr (0, [.int 0, .int (-1), .int 0, .ref l1])), (q_6, .inl (cy_7, 11, .inl (upd (upd (upd (upd (upd (upd (upd (fun _ => 0) ((0 : Int32).toNatClampNeg) 0) ((1 : Int32).toNatClampNeg) 0) ((2 : Int32).toNatClampNeg) 0) ((3 : Int32).toNatClampNeg) 0) ((4 : Int32).toNatClampNeg) 0) ((5 : Int32).toNatClampNeg) 0) ((6 : Int32).toNatClampNeg) 0))), (l1, .inr (1, [.int 0, .ref a0, .int 0])), (l2, .inr (1, [.int 0, .ref a0, .int 0]))] := hD
  refine lv_dup hx hb dX10_manyNow_116 rfl ?_
  refine lv_bipush (v := 7) hx hb dX10_manyNow_117 (by decide) ?_
  refine lv_aload_n hx hb dX10_manyNow_119 rfl (lv_at hl 3 rfl) ?_
  refine va_get (D := (dC, dI)) (ci := 12) (v := .int 0) (C := RX10) (T := TX10) (N := 7) hx hb hts hiX10 hown hK hP 0 rfl rfl 3 (by decide) (hts (.fieldLink RX10 191 "HaltingaleModel" "given" "I") (by decide +kernel)) (fun _ h9 => h9) rfl dX10_manyNow_120 ?_
  refine va_iast hx hb hK hP hD hS 3 1 rfl rfl (by unfold vp_in; decide) dX10_manyNow_123 (fun H locs hP hD hS => ?_)
  have hP : va_P (dC, dI) vwCl [(m0, .inr (12, [.int 0, .ref l1, .ref l2, .int 0, .int 0, .int 0, .long s0])), (q_1, .inl (cy_2, 5, .inl (fun _ => 0))), (r_3, .inr (0, [.int 0, .int (-1), .int 0, .ref l1])), (q_6, .inl (cy_7, 11, .inl (upd (upd (upd (upd (upd (upd (upd (upd (fun _ => 0) ((0 : Int32).toNatClampNeg) 0) ((1 : Int32).toNatClampNeg) 0) ((2 : Int32).toNatClampNeg) 0) ((3 : Int32).toNatClampNeg) 0) ((4 : Int32).toNatClampNeg) 0) ((5 : Int32).toNatClampNeg) 0) ((6 : Int32).toNatClampNeg) 0) ((7 : Int32).toNatClampNeg) 0))), (l1, .inr (1, [.int 0, .ref a0, .int 0])), (l2, .inr (1, [.int 0, .ref a0, .int 0]))] H := hP
  have hD : va_D A [(m0, .inr (12, [.int 0, .ref l1, .ref l2, .int 0, .int 0, .int 0, .long s0])), (q_1, .inl (cy_2, 5, .inl (fun _ => 0))), (r_3, .inr (0, [.int 0, .int (-1), .int 0, .ref l1])), (q_6, .inl (cy_7, 11, .inl (upd (upd (upd (upd (upd (upd (upd (upd (fun _ => 0) ((0 : Int32).toNatClampNeg) 0) ((1 : Int32).toNatClampNeg) 0) ((2 : Int32).toNatClampNeg) 0) ((3 : Int32).toNatClampNeg) 0) ((4 : Int32).toNatClampNeg) 0) ((5 : Int32).toNatClampNeg) 0) ((6 : Int32).toNatClampNeg) 0) ((7 : Int32).toNatClampNeg) 0))), (l1, .inr (1, [.int 0, .ref a0, .int 0])), (l2, .inr (1, [.int 0, .ref a0, .int 0]))] := hD
  refine lv_dup hx hb dX10_manyNow_124 rfl ?_
  refine lv_bipush (v := 8) hx hb dX10_manyNow_125 (by decide) ?_
  refine lv_aload_n hx hb dX10_manyNow_127 rfl (lv_at hl 3 rfl) ?_
  refine va_get (D := (dC, dI)) (ci := 12) (v := .int 0) (C := RX10) (T := TX10) (N := 7) hx hb hts hiX10 hown hK hP 0 rfl rfl 4 (by decide) (hts (.fieldLink RX10 194 "HaltingaleModel" "taken" "I") (by decide +kernel)) (fun _ h9 => h9) rfl dX10_manyNow_128 ?_
  refine va_iast hx hb hK hP hD hS 3 1 rfl rfl (by unfold vp_in; decide) dX10_manyNow_131 (fun H locs hP hD hS => ?_)
  have hP : va_P (dC, dI) vwCl [(m0, .inr (12, [.int 0, .ref l1, .ref l2, .int 0, .int 0, .int 0, .long s0])), (q_1, .inl (cy_2, 5, .inl (fun _ => 0))), (r_3, .inr (0, [.int 0, .int (-1), .int 0, .ref l1])), (q_6, .inl (cy_7, 11, .inl (upd (upd (upd (upd (upd (upd (upd (upd (upd (fun _ => 0) ((0 : Int32).toNatClampNeg) 0) ((1 : Int32).toNatClampNeg) 0) ((2 : Int32).toNatClampNeg) 0) ((3 : Int32).toNatClampNeg) 0) ((4 : Int32).toNatClampNeg) 0) ((5 : Int32).toNatClampNeg) 0) ((6 : Int32).toNatClampNeg) 0) ((7 : Int32).toNatClampNeg) 0) ((8 : Int32).toNatClampNeg) 0))), (l1, .inr (1, [.int 0, .ref a0, .int 0])), (l2, .inr (1, [.int 0, .ref a0, .int 0]))] H := hP
  have hD : va_D A [(m0, .inr (12, [.int 0, .ref l1, .ref l2, .int 0, .int 0, .int 0, .long s0])), (q_1, .inl (cy_2, 5, .inl (fun _ => 0))), (r_3, .inr (0, [.int 0, .int (-1), .int 0, .ref l1])), (q_6, .inl (cy_7, 11, .inl (upd (upd (upd (upd (upd (upd (upd (upd (upd (fun _ => 0) ((0 : Int32).toNatClampNeg) 0) ((1 : Int32).toNatClampNeg) 0) ((2 : Int32).toNatClampNeg) 0) ((3 : Int32).toNatClampNeg) 0) ((4 : Int32).toNatClampNeg) 0) ((5 : Int32).toNatClampNeg) 0) ((6 : Int32).toNatClampNeg) 0) ((7 : Int32).toNatClampNeg) 0) ((8 : Int32).toNatClampNeg) 0))), (l1, .inr (1, [.int 0, .ref a0, .int 0])), (l2, .inr (1, [.int 0, .ref a0, .int 0]))] := hD
  refine lv_dup hx hb dX10_manyNow_132 rfl ?_
  refine lv_bipush (v := 9) hx hb dX10_manyNow_133 (by decide) ?_
  refine lv_aload_n hx hb dX10_manyNow_135 rfl (lv_at hl 3 rfl) ?_
  refine va_get (D := (dC, dI)) (ci := 12) (v := .int 0) (C := RX10) (T := TX10) (N := 7) hx hb hts hiX10 hown hK hP 0 rfl rfl 5 (by decide) (hts (.fieldLink RX10 67 "HaltingaleModel" "back" "I") (by decide +kernel)) (fun _ h9 => h9) rfl dX10_manyNow_136 ?_
  refine va_iast hx hb hK hP hD hS 3 1 rfl rfl (by unfold vp_in; decide) dX10_manyNow_139 (fun H locs hP hD hS => ?_)
  have hP : va_P (dC, dI) vwCl [(m0, .inr (12, [.int 0, .ref l1, .ref l2, .int 0, .int 0, .int 0, .long s0])), (q_1, .inl (cy_2, 5, .inl (fun _ => 0))), (r_3, .inr (0, [.int 0, .int (-1), .int 0, .ref l1])), (q_6, .inl (cy_7, 11, .inl (upd (upd (upd (upd (upd (upd (upd (upd (upd (upd (fun _ => 0) ((0 : Int32).toNatClampNeg) 0) ((1 : Int32).toNatClampNeg) 0) ((2 : Int32).toNatClampNeg) 0) ((3 : Int32).toNatClampNeg) 0) ((4 : Int32).toNatClampNeg) 0) ((5 : Int32).toNatClampNeg) 0) ((6 : Int32).toNatClampNeg) 0) ((7 : Int32).toNatClampNeg) 0) ((8 : Int32).toNatClampNeg) 0) ((9 : Int32).toNatClampNeg) 0))), (l1, .inr (1, [.int 0, .ref a0, .int 0])), (l2, .inr (1, [.int 0, .ref a0, .int 0]))] H := hP
  have hD : va_D A [(m0, .inr (12, [.int 0, .ref l1, .ref l2, .int 0, .int 0, .int 0, .long s0])), (q_1, .inl (cy_2, 5, .inl (fun _ => 0))), (r_3, .inr (0, [.int 0, .int (-1), .int 0, .ref l1])), (q_6, .inl (cy_7, 11, .inl (upd (upd (upd (upd (upd (upd (upd (upd (upd (upd (fun _ => 0) ((0 : Int32).toNatClampNeg) 0) ((1 : Int32).toNatClampNeg) 0) ((2 : Int32).toNatClampNeg) 0) ((3 : Int32).toNatClampNeg) 0) ((4 : Int32).toNatClampNeg) 0) ((5 : Int32).toNatClampNeg) 0) ((6 : Int32).toNatClampNeg) 0) ((7 : Int32).toNatClampNeg) 0) ((8 : Int32).toNatClampNeg) 0) ((9 : Int32).toNatClampNeg) 0))), (l1, .inr (1, [.int 0, .ref a0, .int 0])), (l2, .inr (1, [.int 0, .ref a0, .int 0]))] := hD
  refine lv_dup hx hb dX10_manyNow_140 rfl ?_
  refine lv_bipush (v := 10) hx hb dX10_manyNow_141 (by decide) ?_
  refine lv_iload_n hx hb dX10_manyNow_143 rfl (lv_at hl 1 rfl) ?_
  refine va_iast hx hb hK hP hD hS 3 1 rfl rfl (by unfold vp_in; decide) dX10_manyNow_144 (fun H locs hP hD hS => ?_)
  have hP : va_P (dC, dI) vwCl [(m0, .inr (12, [.int 0, .ref l1, .ref l2, .int 0, .int 0, .int 0, .long s0])), (q_1, .inl (cy_2, 5, .inl (fun _ => 0))), (r_3, .inr (0, [.int 0, .int (-1), .int 0, .ref l1])), (q_6, .inl (cy_7, 11, .inl (upd (upd (upd (upd (upd (upd (upd (upd (upd (upd (upd (fun _ => 0) ((0 : Int32).toNatClampNeg) 0) ((1 : Int32).toNatClampNeg) 0) ((2 : Int32).toNatClampNeg) 0) ((3 : Int32).toNatClampNeg) 0) ((4 : Int32).toNatClampNeg) 0) ((5 : Int32).toNatClampNeg) 0) ((6 : Int32).toNatClampNeg) 0) ((7 : Int32).toNatClampNeg) 0) ((8 : Int32).toNatClampNeg) 0) ((9 : Int32).toNatClampNeg) 0) ((10 : Int32).toNatClampNeg) 0))), (l1, .inr (1, [.int 0, .ref a0, .int 0])), (l2, .inr (1, [.int 0, .ref a0, .int 0]))] H := hP
  have hD : va_D A [(m0, .inr (12, [.int 0, .ref l1, .ref l2, .int 0, .int 0, .int 0, .long s0])), (q_1, .inl (cy_2, 5, .inl (fun _ => 0))), (r_3, .inr (0, [.int 0, .int (-1), .int 0, .ref l1])), (q_6, .inl (cy_7, 11, .inl (upd (upd (upd (upd (upd (upd (upd (upd (upd (upd (upd (fun _ => 0) ((0 : Int32).toNatClampNeg) 0) ((1 : Int32).toNatClampNeg) 0) ((2 : Int32).toNatClampNeg) 0) ((3 : Int32).toNatClampNeg) 0) ((4 : Int32).toNatClampNeg) 0) ((5 : Int32).toNatClampNeg) 0) ((6 : Int32).toNatClampNeg) 0) ((7 : Int32).toNatClampNeg) 0) ((8 : Int32).toNatClampNeg) 0) ((9 : Int32).toNatClampNeg) 0) ((10 : Int32).toNatClampNeg) 0))), (l1, .inr (1, [.int 0, .ref a0, .int 0])), (l2, .inr (1, [.int 0, .ref a0, .int 0]))] := hD
  refine lv_astore (lv' := [(4, .ref q_6), (3, .int 0), (2, .ref q_1), (0, .ref m0), (1, .int 5)]) hx hb dX10_manyNow_145 hl (by decide) rfl (fun ls hl => ?_)
  refine lv_aload hx hb dX10_manyNow_147 (lv_at hl 0 rfl) ?_
  refine lv_iload_n hx hb dX10_manyNow_149 rfl (lv_at hl 4 rfl) ?_
  refine va_iald hx hb hK hP 3 1 rfl rfl (by unfold vp_in; decide) dX10_manyNow_150 ?_
  refine lv_topi (fun x_26 ex_26 => ?_)
  obtain rfl : x_26 = 0 := ex_26.trans (by decide +kernel)
  have hP9 := hP.sub (ws' := [(m0, .inr (12, [.int 0, .ref l1, .ref l2, .int 0, .int 0, .int 0, .long s0])), (l1, .inr (1, [.int 0, .ref a0, .int 0])), (l2, .inr (1, [.int 0, .ref a0, .int 0]))]) [0, 4, 5] rfl
  have hD9 := hD.sub (ws' := [(m0, .inr (12, [.int 0, .ref l1, .ref l2, .int 0, .int 0, .int 0, .long s0])), (l1, .inr (1, [.int 0, .ref a0, .int 0])), (l2, .inr (1, [.int 0, .ref a0, .int 0]))]) [0, 4, 5] (by decide) rfl
  have hK9 := hK.sub (tys' := []) [] rfl
  refine W.widen (k := 3) (n := 20) (Nat.le_of_ble_eq_true rfl) (Nat.le_of_ble_eq_true rfl) ?_
  exact W.iret (v := 0) hx hb hr (fun t ht hW => ⟨⟨0, (), rfl, rfl, ⟨by rw [ht]; exact hP9, va_K.moved hW.alike hK9, hD9⟩⟩, hS.F ht⟩) hS.2.2 dX10_manyNow_151

def zs_c_X10_manyNow_6 : List Cond := .code yX10_manyNow cX10_manyNow 6 (some .int) :: (([.arrayClass .int, .fieldLink RX10 10 "HaltingaleModel" "machines" "Ljava/util/ArrayList;", .code yJx4a65c_iterator_32c93 cJx4a65c_iterator_32c93 1 (some (.object "java/util/Iterator")), .classLink RJx4a65c 267 RJx35411, .instantiable RJx35411 4, .initialized RJx35411, .code yJx35411_init_45d68 cJx35411_init_45d68 2 none, .fieldLink RJx35411 1 "java/util/ArrayList$Itr" "this$0" "Ljava/util/ArrayList;", .methodLink RJx35411 7 objectInit, .instanceMethod objectInit, .code objectInit ⟨#[0xb1]⟩ 1 none, .fieldLink RJx35411 13 "java/util/ArrayList$Itr" "lastRet" "I", .sameField "java/util/ArrayList" "java/util/AbstractList" "modCount" "I", .fieldLink RJx35411 17 "java/util/ArrayList" "modCount" "I", .fieldLink RJx35411 22 "java/util/ArrayList$Itr" "expectedModCount" "I", .methodLink RJx4a65c 269 yJx35411_init_45d68, .instanceMethod yJx35411_init_45d68, .methodLink RX10 158 yJx4a65c_iterator_32c93, .instanceMethod yJx4a65c_iterator_32c93, .initialized RJx4a65c, .selects RJx4a65c yJx4a65c_iterator_32c93 yJx4a65c_iterator_32c93, .code yJx35411_hasNext_aae02 cJx35411_hasNext_aae02 1 (some .boolean), .fieldLink RJx35411 25 "java/util/ArrayList$Itr" "cursor" "I", .methodLink RX10 162 ⟨"java/util/Iterator", "hasNext", "()Z"⟩, .instanceMethod yJx35411_hasNext_aae02, .selects RJx35411 ⟨"java/util/Iterator", "hasNext", "()Z"⟩ yJx35411_hasNext_aae02, .code yJx4a65c_size_8abf5 cJx4a65c_size_8abf5 1 (some .int), .fieldLink RJx4a65c 48 "java/util/ArrayList" "size" "I", .methodLink RX10 23 yJx4a65c_size_8abf5, .instanceMethod yJx4a65c_size_8abf5, .selects RJx4a65c yJx4a65c_size_8abf5 yJx4a65c_size_8abf5, .fieldLink RX10 16 "HaltingaleModel" "tags" "Ljava/util/ArrayList;", .fieldLink RX10 191 "HaltingaleModel" "given" "I", .fieldLink RX10 194 "HaltingaleModel" "taken" "I", .fieldLink RX10 67 "HaltingaleModel" "back" "I"] : List Cond) ++ wsX100 ++ wsJx354110 ++ wsJx4a65c0)
set_option maxHeartbeats 4000000 in
set_option maxRecDepth 100000 in
/-- manyNow of 6 -/
theorem c_X10_manyNow_6 (l : Launch) (hnt : l.stackTraces = false) (dC : Nat → ClassId) (dI : Nat → Nat → Nat) (a0 : Nat) (m0 : Nat) (l1 : Nat) (l2 : Nat) (s0 : Int64) (sz : Nat)  : Met l yX10_manyNow zs_c_X10_manyNow_6 ({ frames := 3, cells := 3, slots := 20, locals := 53 }) (va_Pc [.ref m0, .int 6] (fun U => U.heap.size = sz ∧ va_P (dC, dI) vwCl [(m0, .inr (12, [.int 0, .ref l1, .ref l2, .int 0, .int 0, .int 0, .long s0])), (l1, .inr (1, [.int 0, .ref a0, .int 0])), (l2, .inr (1, [.int 0, .ref a0, .int 0]))] U.heap ∧ va_K (dC, dI) vwCl [] U ∧ va_D (fun _ => True) [(m0, .inr (12, [.int 0, .ref l1, .ref l2, .int 0, .int 0, .int 0, .long s0])), (l1, .inr (1, [.int 0, .ref a0, .int 0])), (l2, .inr (1, [.int 0, .ref a0, .int 0]))] ∧ zB a0 (va_A [(m0, .inr (12, [.int 0, .ref l1, .ref l2, .int 0, .int 0, .int 0, .long s0])), (l1, .inr (1, [.int 0, .ref a0, .int 0])), (l2, .inr (1, [.int 0, .ref a0, .int 0]))] sz) U U.heap)) (va_Qi (fun (r : Int32) (_ : Unit) => r = 0) (fun _ t => va_P (dC, dI) vwCl [(m0, .inr (12, [.int 0, .ref l1, .ref l2, .int 0, .int 0, .int 0, .long s0])), (l1, .inr (1, [.int 0, .ref a0, .int 0])), (l2, .inr (1, [.int 0, .ref a0, .int 0]))] t.heap ∧ va_K (dC, dI) vwCl [] t ∧ va_D (va_A [(m0, .inr (12, [.int 0, .ref l1, .ref l2, .int 0, .int 0, .int 0, .long s0])), (l1, .inr (1, [.int 0, .ref a0, .int 0])), (l2, .inr (1, [.int 0, .ref a0, .int 0]))] sz) [(m0, .inr (12, [.int 0, .ref l1, .ref l2, .int 0, .int 0, .int 0, .long s0])), (l1, .inr (1, [.int 0, .ref a0, .int 0])), (l2, .inr (1, [.int 0, .ref a0, .int 0]))]) (va_A [(m0, .inr (12, [.int 0, .ref l1, .ref l2, .int 0, .int 0, .int 0, .long s0])), (l1, .inr (1, [.int 0, .ref a0, .int 0])), (l2, .inr (1, [.int 0, .ref a0, .int 0]))] sz)) 3 20 (va_A [(m0, .inr (12, [.int 0, .ref l1, .ref l2, .int 0, .int 0, .int 0, .long s0])), (l1, .inr (1, [.int 0, .ref a0, .int 0])), (l2, .inr (1, [.int 0, .ref a0, .int 0]))] sz) := by
  refine Met.ofW (cc := cX10_manyNow) (maxL := 6) (ret := (some .int)) (by decide) rfl ?_
  intro p e s m args below meth c s₁ B hml hv
  obtain ⟨rfl, hsz, hP, hK, hD0, hZ⟩ := hv
  have hx := B.exec
  have hb := B.bytes
  have hr := B.returns
  have hts := atoms_spec (ws := zs_c_X10_manyNow_6) B.pre
  have hown : s.vm.findClass RX10 = some m.cls := findClass_of_methodNamed B.named
  have hlocks := B.notSynchronized
  have hiX10 : ∀ w ∈ wsX100, w ∈ zs_c_X10_manyNow_6 := by decide +kernel
  subst hsz
  have hD := hD0.self (sz := s.heap.size)
  generalize hAe : va_A [(m0, .inr (12, [.int 0, .ref l1, .ref l2, .int 0, .int 0, .int 0, .long s0])), (l1, .inr (1, [.int 0, .ref a0, .int 0])), (l2, .inr (1, [.int 0, .ref a0, .int 0]))] s.heap.size = A at hD hZ ⊢
  have hA : ∀ q : Nat, s.heap.size ≤ q → A q := fun q h => by rw [← hAe]; exact Or.inr h
  have hS : va_S A s.heap s.heap [] := va_S.rf
  have hl := lv_entry ([.ref m0, .int 6]) (n := 6) (Nat.le_of_ble_eq_true rfl)
  rw [lg_entry_eq]
  generalize (lg_sl ([.ref m0, .int 6]) ++ List.replicate (6 - (lg_sl ([.ref m0, .int 6])).length) Slot.unset).toArray = ls at hl ⊢
  have hl : lv_has ls 6 [(0, .ref m0), (1, .int 6)] := hl
  refine lv_iconst (v := 5) hx hb dX10_manyNow_0 (by decide) ?_
  refine va_newa (atype := .int) (ty := .int) (N' := 5) (a0 := (5, .inl (fun _ => 0))) hx hb (hts (.arrayClass .int) (by decide +kernel)) rfl hK hP hD hS hA (fun _ => rfl) (by decide) (by decide) (Nat.le_of_ble_eq_true rfl) (Nat.le_of_ble_eq_true rfl) (Nat.le_of_ble_eq_true rfl) dX10_manyNow_1 (fun q_1 cy_2 H hK hP hD hS => ?_)
  have hK : va_K (dC, dI) vwCl [(cy_2, .int)] s := hK
  have hP : va_P (dC, dI) vwCl [(m0, .inr (12, [.int 0, .ref l1, .ref l2, .int 0, .int 0, .int 0, .long s0])), (l1, .inr (1, [.int 0, .ref a0, .int 0])), (l2, .inr (1, [.int 0, .ref a0, .int 0])), (q_1, .inl (cy_2, 5, .inl (fun _ => 0)))] H := hP
  have hD : va_D A [(m0, .inr (12, [.int 0, .ref l1, .ref l2, .int 0, .int 0, .int 0, .long s0])), (l1, .inr (1, [.int 0, .ref a0, .int 0])), (l2, .inr (1, [.int 0, .ref a0, .int 0])), (q_1, .inl (cy_2, 5, .inl (fun _ => 0)))] := hD
  refine W.widen (k := 1) (n := 5) (Nat.le_of_ble_eq_true rfl) (Nat.le_of_ble_eq_true rfl) ?_
  refine lv_astore_n (lv' := [(2, .ref q_1), (0, .ref m0), (1, .int 6)]) hx hb dX10_manyNow_3 rfl hl (by decide) rfl (fun ls hl => ?_)
  refine lv_iconst (v := 0) hx hb dX10_manyNow_4 (by decide) ?_
  refine lv_istore_n (lv' := [(3, .int 0), (2, .ref q_1), (0, .ref m0), (1, .int 6)]) hx hb dX10_manyNow_5 rfl hl (by decide) rfl (fun ls hl => ?_)
  refine lv_aload_n hx hb dX10_manyNow_6 rfl (lv_at hl 2 rfl) ?_
  refine va_get (D := (dC, dI)) (ci := 12) (v := .ref l1) (C := RX10) (T := TX10) (N := 7) hx hb hts hiX10 hown hK hP 0 rfl rfl 1 (by decide) (hts (.fieldLink RX10 10 "HaltingaleModel" "machines" "Ljava/util/ArrayList;") (by decide +kernel)) (fun _ h9 => h9) rfl dX10_manyNow_7 ?_
  have hPc := hP.sub (ws' := [(l1, .inr (1, [.int 0, .ref a0, .int 0]))]) [1] rfl
  have hDc := hD.sub (ws' := [(l1, .inr (1, [.int 0, .ref a0, .int 0]))]) [1] (by decide) rfl
  have hKc := hK.sub (tys' := []) [] rfl
  have hFc := va_free (wc := [(l1, .inr (1, [.int 0, .ref a0, .int 0]))]) hD hS hA [1] rfl
  have hZc := ((hZ.kept hS.2.1).narrow hFc)
  refine va_callr (va_runV (As := []) (rest := []) ⟨hx, hb, hml, hown, hts⟩ (c_Jx4a65c_iterator_32c93 l hnt dC dI a0 l1 H.size ) (cwV 0 hts (goodIn_of _ (by decide +kernel)) rfl rfl rfl (by decide +kernel) ⟨Nat.le_of_ble_eq_true rfl, Nat.le_of_ble_eq_true rfl⟩) ⟨fun a U g mk q => by obtain ⟨q0, q1, qP, qK, qD, qZ⟩ := q; exact ⟨q0, q1, qP, va_K.moved (u := U) (U := U.calling g mk a) (Vm.Alike.refl U.vm) qK, qD, qZ.call⟩, va_recv hKc hPc (ci := 1) (q0 := 0) rfl rfl, fun U hU hW => ⟨rfl, by rw [hU], by rw [hU]; exact hPc, va_K.moved hW.alike hKc, hDc.weaken (fun _ _ _ _ => trivial), by rw [hU]; exact hZc.warm hW⟩⟩ rfl rfl hl.1 rfl (lv_room (Nat.le_of_ble_eq_true rfl)) dX10_manyNow_10 ⟨Nat.le_of_ble_eq_true rfl, Nat.le_of_ble_eq_true rfl⟩) hS (fun q _ h => hFc q h) hFc (fun u r_3 t H1 locs ht hvm hw hB hz1 hk1 hS => ?_)
  obtain ⟨hP1, hK1, hD1⟩ := hB
  rw [ht] at hP1
  have hK1 := va_K.moved hvm.symm hK1
  obtain ⟨hP, hD⟩ := va_join (wr := [(m0, .inr (12, [.int 0, .ref l1, .ref l2, .int 0, .int 0, .int 0, .long s0])), (l2, .inr (1, [.int 0, .ref a0, .int 0])), (q_1, .inl (cy_2, 5, .inl (fun _ => 0)))]) (w1 := [(r_3, .inr (0, [.int 0, .int (-1), .int 0, .ref l1])), (l1, .inr (1, [.int 0, .ref a0, .int 0]))]) hP hD [1] [0, 2, 3] rfl rfl (by decide) (by decide) hk1 hFc hP1 hD1
  have hK := (hK.sub (tys' := [(cy_2, .int)]) [0] rfl).app hK1
  generalize H1 = H at hP hS ⊢
  have hP : va_P (dC, dI) vwCl [(m0, .inr (12, [.int 0, .ref l1, .ref l2, .int 0, .int 0, .int 0, .long s0])), (l2, .inr (1, [.int 0, .ref a0, .int 0])), (q_1, .inl (cy_2, 5, .inl (fun _ => 0))), (r_3, .inr (0, [.int 0, .int (-1), .int 0, .ref l1])), (l1, .inr (1, [.int 0, .ref a0, .int 0]))] H := hP
  have hD : va_D A [(m0, .inr (12, [.int 0, .ref l1, .ref l2, .int 0, .int 0, .int 0, .long s0])), (l2, .inr (1, [.int 0, .ref a0, .int 0])), (q_1, .inl (cy_2, 5, .inl (fun _ => 0))), (r_3, .inr (0, [.int 0, .int (-1), .int 0, .ref l1])), (l1, .inr (1, [.int 0, .ref a0, .int 0]))] := hD
  have hK : va_K (dC, dI) vwCl [(cy_2, .int)] s := hK
  refine W.widen (k := 2) (n := 9) (Nat.le_of_ble_eq_true rfl) (Nat.le_of_ble_eq_true rfl) ?_
  refine lv_astore (lv' := [(4, .ref r_3), (3, .int 0), (2, .ref q_1), (0, .ref m0), (1, .int 6)]) hx hb dX10_manyNow_13 hl (by decide) rfl (fun ls hl => ?_)
  refine lv_aload hx hb dX10_manyNow_15 (lv_at hl 0 rfl) ?_
  have hPc := hP.sub (ws' := [(r_3, .inr (0, [.int 0, .int (-1), .int 0, .ref l1])), (l1, .inr (1, [.int 0, .ref a0, .int 0]))]) [3, 4] rfl
  have hDc := hD.sub (ws' := [(r_3, .inr (0, [.int 0, .int (-1), .int 0, .ref l1])), (l1, .inr (1, [.int 0, .ref a0, .int 0]))]) [3, 4] (by decide) rfl
  have hKc := hK.sub (tys' := []) [] rfl
  have hFc := va_free (wc := [(r_3, .inr (0, [.int 0, .int (-1), .int 0, .ref l1])), (l1, .inr (1, [.int 0, .ref a0, .int 0]))]) hD hS hA [3, 4] rfl
  have hZc := ((hZ.kept hS.2.1).narrow hFc)
  refine va_callFi (va_runF (As := []) (rest := []) (zz_at hK 0 rfl) ⟨hx, hb, hml, hown, hts⟩ (c_Jx35411_hasNext_aae02 l hnt dC dI a0 r_3 l1 H.size ) (va_cwF 0 hts (goodIn_of _ (by decide +kernel)) rfl rfl rfl hZ.fwN (by decide +kernel) ⟨Nat.le_of_ble_eq_true rfl, Nat.le_of_ble_eq_true rfl⟩) ⟨fun a U g mk q => by obtain ⟨q0, q1, qP, qK, qD, qZ⟩ := q; exact ⟨q0, q1, qP, va_K.moved (u := U) (U := U.calling g mk a) (Vm.Alike.refl U.vm) qK, qD, qZ.call⟩, va_recv hKc hPc (ci := 0) (q0 := 0) rfl rfl, fun U hU hW => ⟨rfl, by rw [hU], by rw [hU]; exact hPc, va_K.moved hW.alike hKc, hDc.weaken (fun _ _ _ _ => trivial), by rw [hU]; exact hZc.warm hW⟩⟩ rfl rfl hl.1 rfl (lv_room (Nat.le_of_ble_eq_true rfl)) dX10_manyNow_17 ⟨Nat.le_of_ble_eq_true rfl, Nat.le_of_ble_eq_true rfl⟩) hS (fun q _ h => hFc q h) hFc (fun r_4 u t H1 locs ht hvm hw hB hz1 hk1 hS => ?_)
  obtain ⟨hP1, hK1, hD1⟩ := hB
  rw [ht] at hP1
  have hK1 := va_K.moved hvm.symm hK1
  obtain ⟨hP, hD⟩ := va_join (wr := [(m0, .inr (12, [.int 0, .ref l1, .ref l2, .int 0, .int 0, .int 0, .long s0])), (l2, .inr (1, [.int 0, .ref a0, .int 0])), (q_1, .inl (cy_2, 5, .inl (fun _ => 0)))]) (w1 := [(r_3, .inr (0, [.int 0, .int (-1), .int 0, .ref l1])), (l1, .inr (1, [.int 0, .ref a0, .int 0]))]) hP hD [3, 4] [0, 1, 2] rfl rfl (by decide) (by decide) hk1 hFc hP1 hD1
  have hK := (hK.sub (tys' := [(cy_2, .int)]) [0] rfl).app hK1
  generalize H1 = H at hP hS ⊢
  have hP : va_P (dC, dI) vwCl [(m0, .inr (12, [.int 0, .ref l1, .ref l2, .int 0, .int 0, .int 0, .long s0])), (l2, .inr (1, [.int 0, .ref a0, .int 0])), (q_1, .inl (cy_2, 5, .inl (fun _ => 0))), (r_3, .inr (0, [.int 0, .int (-1), .int 0, .ref l1])), (l1, .inr (1, [.int 0, .ref a0, .int 0]))] H := hP
  have hD : va_D A [(m0, .inr (12, [.int 0, .ref l1, .ref l2, .int 0, .int 0, .int 0, .long s0])), (l2, .inr (1, [.int 0, .ref a0, .int 0])), (q_1, .inl (cy_2, 5, .inl (fun _ => 0))), (r_3, .inr (0, [.int 0, .int (-1), .int 0, .ref l1])), (l1, .inr (1, [.int 0, .ref a0, .int 0]))] := hD
  have hK : va_K (dC, dI) vwCl [(cy_2, .int)] s := hK
  refine W.widen (k := 2) (n := 9) (Nat.le_of_ble_eq_true rfl) (Nat.le_of_ble_eq_true rfl) ?_
  obtain rfl : r_4 = 0 := hw
  refine lv_if_eq (tgt := 61) hx hb dX10_manyNow_22 (by decide) (fun c_5 => ?_) (fun c_5 => ?_)
  rotate_left
  · (first | exact absurd c_5 (by decide) | exact absurd (by decide) c_5)
  refine lv_bipush (v := 11) hx hb dX10_manyNow_61 (by decide) ?_
  refine va_newa (atype := .int) (ty := .int) (N' := 11) (a0 := (11, .inl (fun _ => 0))) hx hb (hts (.arrayClass .int) (by decide +kernel)) rfl hK hP hD hS hA (fun _ => rfl) (by decide) (by decide) (Nat.le_of_ble_eq_true rfl) (Nat.le_of_ble_eq_true rfl) (Nat.le_of_ble_eq_true rfl) dX10_manyNow_63 (fun q_6 cy_7 H hK hP hD hS => ?_)
  have hK : va_K (dC, dI) vwCl [(cy_2, .int), (cy_7, .int)] s := hK
  have hP : va_P (dC, dI) vwCl [(m0, .inr (12, [.int 0, .ref l1, .ref l2, .int 0, .int 0, .int 0, .long s0])), (l2, .inr (1, [.int 0, .ref a0, .int 0])), (q_1, .inl (cy_2, 5, .inl (fun _ => 0))), (r_3, .inr (0, [.int 0, .int (-1), .int 0, .ref l1])), (l1, .inr (1, [.int 0, .ref a0, .int 0])), (q_6, .inl (cy_7, 11, .inl (fun _ => 0)))] H := hP
  have hD : va_D A [(m0, .inr (12, [.int 0, .ref l1, .ref l2, .int 0, .int 0, .int 0, .long s0])), (l2, .inr (1, [.int 0, .ref a0, .int 0])), (q_1, .inl (cy_2, 5, .inl (fun _ => 0))), (r_3, .inr (0, [.int 0, .int (-1), .int 0, .ref l1])), (l1, .inr (1, [.int 0, .ref a0, .int 0])), (q_6, .inl (cy_7, 11, .inl (fun _ => 0)))] := hD
  refine W.widen (k := 3) (n := 20) (Nat.le_of_ble_eq_true rfl) (Nat.le_of_ble_eq_true rfl) ?_
  refine lv_dup hx hb dX10_manyNow_65 rfl ?_
  refine lv_iconst (v := 0) hx hb dX10_manyNow_66 (by decide) ?_
  refine lv_aload_n hx hb dX10_manyNow_67 rfl (lv_at hl 3 rfl) ?_
  refine va_get (D := (dC, dI)) (ci := 12) (v := .ref l1) (C := RX10) (T := TX10) (N := 7) hx hb hts hiX10 hown hK hP 0 rfl rfl 1 (by decide) (hts (.fieldLink RX10 10 "HaltingaleModel" "machines" "Ljava/util/ArrayList;") (by decide +kernel)) (fun _ h9 => h9) rfl dX10_manyNow_68 ?_
  have hPc := hP.sub (ws' := [(l1, .inr (1, [.int 0, .ref a0, .int 0]))]) [4] rfl
  have hDc := hD.sub (ws' := [(l1, .inr (1, [.int 0, .ref a0, .int 0]))]) [4] (by decide) rfl
  have hKc := hK.sub (tys' := []) [] rfl
  have hFc := va_free (wc := [(l1, .inr (1, [.int 0, .ref a0, .int 0]))]) hD hS hA [4] rfl
  have hZc := ((hZ.kept hS.2.1).narrow hFc)
  refine va_calli (va_runV (As := []) (rest := [.int 0, .ref q_6, .ref q_6]) ⟨hx, hb, hml, hown, hts⟩ (c_Jx4a65c_size_8abf5 l hnt dC dI a0 l1 0 a0 0 H.size ) (cwV 0 hts (goodIn_of _ (by decide +kernel)) rfl rfl rfl (by decide +kernel) ⟨Nat.le_of_ble_eq_true rfl, Nat.le_of_ble_eq_true rfl⟩) ⟨fun a U g mk q => by obtain ⟨q0, q1, qP, qK, qD, qZ⟩ := q; exact ⟨q0, q1, qP, va_K.moved (u := U) (U := U.calling g mk a) (Vm.Alike.refl U.vm) qK, qD, qZ.call⟩, va_recv hKc hPc (ci := 1) (q0 := 0) rfl rfl, fun U hU hW => ⟨rfl, by rw [hU], by rw [hU]; exact hPc, va_K.moved hW.alike hKc, hDc.weaken (fun _ _ _ _ => trivial), by rw [hU]; exact hZc.warm hW⟩⟩ rfl rfl hl.1 rfl (lv_room (Nat.le_of_ble_eq_true rfl)) dX10_manyNow_71 ⟨Nat.le_of_ble_eq_true rfl, Nat.le_of_ble_eq_true rfl⟩) hS (fun q _ h => hFc q h) hFc (fun r_8 u t H1 locs ht hvm hw hB hz1 hk1 hS => ?_)
  obtain ⟨hP1, hK1, hD1⟩ := hB
  rw [ht] at hP1
  have hK1 := va_K.moved hvm.symm hK1
  obtain ⟨hP, hD⟩ := va_join (wr := [(m0, .inr (12, [.int 0, .ref l1, .ref l2, .int 0, .int 0, .int 0, .long s0])), (l2, .inr (1, [.int 0, .ref a0, .int 0])), (q_1, .inl (cy_2, 5, .inl (fun _ => 0))), (r_3, .inr (0, [.int 0, .int (-1), .int 0, .ref l1])), (q_6, .inl (cy_7, 11, .inl (fun _ => 0)))]) (w1 := [(l1, .inr (1, [.int 0, .ref a0, .int 0]))]) hP hD [4] [0, 1, 2, 3, 5] rfl rfl (by decide) (by decide) hk1 hFc hP1 hD1
  have hK := (hK.sub (tys' := [(cy_2, .int), (cy_7, .int)]) [0, 1] rfl).app hK1
  generalize H1 = H at hP hS ⊢
  have hP : va_P (dC, dI) vwCl [(m0, .inr (12, [.int 0, .ref l1, .ref l2, .int 0, .int 0, .int 0, .long s0])), (l2, .inr (1, [.int 0, .ref a0, .int 0])), (q_1, .inl (cy_2, 5, .inl (fun _ => 0))), (r_3, .inr (0, [.int 0, .int (-1), .int 0, .ref l1])), (q_6, .inl (cy_7, 11, .inl (fun _ => 0))), (l1, .inr (1, [.int 0, .ref a0, .int 0]))] H := hP
  have hD : va_D A [(m0, .inr (12, [.int 0, .ref l1, .ref l2, .int 0, .int 0, .int 0, .long s0])), (l2, .inr (1, [.int 0, .ref a0, .int 0])), (q_1, .inl (cy_2, 5, .inl (fun _ => 0))), (r_3, .inr (0, [.int 0, .int (-1), .int 0, .ref l1])), (q_6, .inl (cy_7, 11, .inl (fun _ => 0))), (l1, .inr (1, [.int 0, .ref a0, .int 0]))] := hD
  have hK : va_K (dC, dI) vwCl [(cy_2, .int), (cy_7, .int)] s := hK
  refine W.widen (k := 3) (n := 20) (Nat.le_of_ble_eq_true rfl) (Nat.le_of_ble_eq_true rfl) ?_
  obtain rfl : r_8 = 0 := hw
  refine va_iast hx hb hK hP hD hS 4 1 rfl rfl (by unfold vp_in; decide) dX10_manyNow_74 (fun H locs hP hD hS => ?_)
  have hP : va_P (dC, dI) vwCl [(m0, .inr (12, [.int 0, .ref l1, .ref l2, .int 0, .int 0, .int 0, .long s0])), (l2, .inr (1, [.int 0, .ref a0, .int 0])), (q_1, .inl (cy_2, 5, .inl (fun _ => 0))), (r_3, .inr (0, [.int 0, .int (-1), .int 0, .ref l1])), (q_6, .inl (cy_7, 11, .inl (upd (fun _ => 0) ((0 : Int32).toNatClampNeg) 0))), (l1, .inr (1, [.int 0, .ref a0, .int 0]))] H := hP
  have hD : va_D A [(m0, .inr (12, [.int 0, .ref l1, .ref l2, .int 0, .int 0, .int 0, .long s0])), (l2, .inr (1, [.int 0, .ref a0, .int 0])), (q_1, .inl (cy_2, 5, .inl (fun _ => 0))), (r_3, .inr (0, [.int 0, .int (-1), .int 0, .ref l1])), (q_6, .inl (cy_7, 11, .inl (upd (fun _ => 0) ((0 : Int32).toNatClampNeg) 0))), (l1, .inr (1, [.int 0, .ref a0, .int 0]))] := hD
  refine lv_dup hx hb dX10_manyNow_75 rfl ?_
  refine lv_iconst (v := 1) hx hb dX10_manyNow_76 (by decide) ?_
  refine lv_aload_n hx hb dX10_manyNow_77 rfl (lv_at hl 2 rfl) ?_
  refine lv_iconst (v := 0) hx hb dX10_manyNow_78 (by decide) ?_
  refine va_iald hx hb hK hP 2 0 rfl rfl (by unfold vp_in; decide) dX10_manyNow_79 ?_
  refine lv_topi (fun x_10 ex_10 => ?_)
  obtain rfl : x_10 = 0 := ex_10.trans (by decide +kernel)
  refine va_iast hx hb hK hP hD hS 4 1 rfl rfl (by unfold vp_in; decide) dX10_manyNow_80 (fun H locs hP hD hS => ?_)
  have hP : va_P (dC, dI) vwCl [(m0, .inr (12, [.int 0, .ref l1, .ref l2, .int 0, .int 0, .int 0, .long s0])), (l2, .inr (1, [.int 0, .ref a0, .int 0])), (q_1, .inl (cy_2, 5, .inl (fun _ => 0))), (r_3, .inr (0, [.int 0, .int (-1), .int 0, .ref l1])), (q_6, .inl (cy_7, 11, .inl (upd (upd (fun _ => 0) ((0 : Int32).toNatClampNeg) 0) ((1 : Int32).toNatClampNeg) 0))), (l1, .inr (1, [.int 0, .ref a0, .int 0]))] H := hP
  have hD : va_D A [(m0, .inr (12, [.int 0, .ref l1, .ref l2, .int 0, .int 0, .int 0, .long s0])), (l2, .inr (1, [.int 0, .ref a0, .int 0])), (q_1, .inl (cy_2, 5, .inl (fun _ => 0))), (r_3, .inr (0, [.int 0, .int (-1), .int 0, .ref l1])), (q_6, .inl (cy_7, 11, .inl (upd (upd (fun _ => 0) ((0 : Int32).toNatClampNeg) 0) ((1 : Int32).toNatClampNeg) 0))), (l1, .inr (1, [.int 0, .ref a0, .int 0]))] := hD
  refine lv_dup hx hb dX10_manyNow_81 rfl ?_
  refine lv_iconst (v := 2) hx hb dX10_manyNow_82 (by decide) ?_
  refine lv_aload_n hx hb dX10_manyNow_83 rfl (lv_at hl 2 rfl) ?_
  refine lv_iconst (v := 1) hx hb dX10_manyNow_84 (by decide) ?_
  refine va_iald hx hb hK hP 2 0 rfl rfl (by unfold vp_in; decide) dX10_manyNow_85 ?_
  refine lv_topi (fun x_12 ex_12 => ?_)
  obtain rfl : x_12 = 0 := ex_12.trans (by decide +kernel)
  refine va_iast hx hb hK hP hD hS 4 1 rfl rfl (by unfold vp_in; decide) dX10_manyNow_86 (fun H locs hP hD hS => ?_)
  have hP : va_P (dC, dI) vwCl [(m0, .inr (12, [.int 0, .ref l1, .ref l2, .int 0, .int 0, .int 0, .long s0])), (l2, .inr (1, [.int 0, .ref a0, .int 0])), (q_1, .inl (cy_2, 5, .inl (fun _ => 0))), (r_3, .inr (0, [.int 0, .int (-1), .int 0, .ref l1])), (q_6, .inl (cy_7, 11, .inl (upd (upd (upd (fun _ => 0) ((0 : Int32).toNatClampNeg) 0) ((1 : Int32).toNatClampNeg) 0) ((2 : Int32).toNatClampNeg) 0))), (l1, .inr (1, [.int 0, .ref a0, .int 0]))] H := hP
  have hD : va_D A [(m0, .inr (12, [.int 0, .ref l1, .ref l2, .int 0, .int 0, .int 0, .long s0])), (l2, .inr (1, [.int 0, .ref a0, .int 0])), (q_1, .inl (cy_2, 5, .inl (fun _ => 0))), (r_3, .inr (0, [.int 0, .int (-1), .int 0, .ref l1])), (q_6, .inl (cy_7, 11, .inl (upd (upd (upd (fun _ => 0) ((0 : Int32).toNatClampNeg) 0) ((1 : Int32).toNatClampNeg) 0) ((2 : Int32).toNatClampNeg) 0))), (l1, .inr (1, [.int 0, .ref a0, .int 0]))] := hD
  refine lv_dup hx hb dX10_manyNow_87 rfl ?_
  refine lv_iconst (v := 3) hx hb dX10_manyNow_88 (by decide) ?_
  refine lv_aload_n hx hb dX10_manyNow_89 rfl (lv_at hl 2 rfl) ?_
  refine lv_iconst (v := 2) hx hb dX10_manyNow_90 (by decide) ?_
  refine va_iald hx hb hK hP 2 0 rfl rfl (by unfold vp_in; decide) dX10_manyNow_91 ?_
  refine lv_topi (fun x_14 ex_14 => ?_)
  obtain rfl : x_14 = 0 := ex_14.trans (by decide +kernel)
  refine va_iast hx hb hK hP hD hS 4 1 rfl rfl (by unfold vp_in; decide) dX10_manyNow_92 (fun H locs hP hD hS => ?_)
  have hP : va_P (dC, dI) vwCl [(m0, .inr (12, [.int 0, .ref l1, .ref l2, .int 0, .int 0, .int 0, .long s0])), (l2, .inr (1, [.int 0, .ref a0, .int 0])), (q_1, .inl (cy_2, 5, .inl (fun _ => 0))), (r_3, .inr (0, [.int 0, .int (-1), .int 0, .ref l1])), (q_6, .inl (cy_7, 11, .inl (upd (upd (upd (upd (fun _ => 0) ((0 : Int32).toNatClampNeg) 0) ((1 : Int32).toNatClampNeg) 0) ((2 : Int32).toNatClampNeg) 0) ((3 : Int32).toNatClampNeg) 0))), (l1, .inr (1, [.int 0, .ref a0, .int 0]))] H := hP
  have hD : va_D A [(m0, .inr (12, [.int 0, .ref l1, .ref l2, .int 0, .int 0, .int 0, .long s0])), (l2, .inr (1, [.int 0, .ref a0, .int 0])), (q_1, .inl (cy_2, 5, .inl (fun _ => 0))), (r_3, .inr (0, [.int 0, .int (-1), .int 0, .ref l1])), (q_6, .inl (cy_7, 11, .inl (upd (upd (upd (upd (fun _ => 0) ((0 : Int32).toNatClampNeg) 0) ((1 : Int32).toNatClampNeg) 0) ((2 : Int32).toNatClampNeg) 0) ((3 : Int32).toNatClampNeg) 0))), (l1, .inr (1, [.int 0, .ref a0, .int 0]))] := hD
  refine lv_dup hx hb dX10_manyNow_93 rfl ?_
  refine lv_iconst (v := 4) hx hb dX10_manyNow_94 (by decide) ?_
  refine lv_aload_n hx hb dX10_manyNow_95 rfl (lv_at hl 2 rfl) ?_
  refine lv_iconst (v := 3) hx hb dX10_manyNow_96 (by decide) ?_
  refine va_iald hx hb hK hP 2 0 rfl rfl (by unfold vp_in; decide) dX10_manyNow_97 ?_
  refine lv_topi (fun x_16 ex_16 => ?_)
  obtain rfl : x_16 = 0 := ex_16.trans (by decide +kernel)
  refine va_iast hx hb hK hP hD hS 4 1 rfl rfl (by unfold vp_in; decide) dX10_manyNow_98 (fun H locs hP hD hS => ?_)
  have hP : va_P (dC, dI) vwCl [(m0, .inr (12, [.int 0, .ref l1, .ref l2, .int 0, .int 0, .int 0, .long s0])), (l2, .inr (1, [.int 0, .ref a0, .int 0])), (q_1, .inl (cy_2, 5, .inl (fun _ => 0))), (r_3, .inr (0, [.int 0, .int (-1), .int 0, .ref l1])), (q_6, .inl (cy_7, 11, .inl (upd (upd (upd (upd (upd (fun _ => 0) ((0 : Int32).toNatClampNeg) 0) ((1 : Int32).toNatClampNeg) 0) ((2 : Int32).toNatClampNeg) 0) ((3 : Int32).toNatClampNeg) 0) ((4 : Int32).toNatClampNeg) 0))), (l1, .inr (1, [.int 0, .ref a0, .int 0]))] H := hP
  have hD : va_D A [(m0, .inr (12, [.int 0, .ref l1, .ref l2, .int 0, .int 0, .int 0, .long s0])), (l2, .inr (1, [.int 0, .ref a0, .int 0])), (q_1, .inl (cy_2, 5, .inl (fun _ => 0))), (r_3, .inr (0, [.int 0, .int (-1), .int 0, .ref l1])), (q_6, .inl (cy_7, 11, .inl (upd (upd (upd (upd (upd (fun _ => 0) ((0 : Int32).toNatClampNeg) 0) ((1 : Int32).toNatClampNeg) 0) ((2 : Int32).toNatClampNeg) 0) ((3 : Int32).toNatClampNeg) 0) ((4 : Int32).toNatClampNeg) 0))), (l1, .inr (1, [.int 0, .ref a0, .int 0]))] := hD
  refine lv_dup hx hb dX10_manyNow_99 rfl ?_
  refine lv_iconst (v := 5) hx hb dX10_manyNow_100 (by decide) ?_
  refine lv_aload_n hx hb dX10_manyNow_101 rfl (lv_at hl 2 rfl) ?_
  refine lv_iconst (v := 4) hx hb dX10_manyNow_102 (by decide) ?_
  refine va_iald hx hb hK hP 2 0 rfl rfl (by unfold vp_in; decide) dX10_manyNow_103 ?_
  refine lv_topi (fun x_18 ex_18 => ?_)
  obtain rfl : x_18 = 0 := ex_18.trans (by decide +kernel)
  refine va_iast hx hb hK hP hD hS 4 1 rfl rfl (by unfold vp_in; decide) dX10_manyNow_104 (fun H locs hP hD hS => ?_)
  have hP : va_P (dC, dI) vwCl [(m0, .inr (12, [.int 0, .ref l1, .ref l2, .int 0, .int 0, .int 0, .long s0])), (l2, .inr (1, [.int 0, .ref a0, .int 0])), (q_1, .inl (cy_2, 5, .inl (fun _ => 0))), (r_3, .inr (0, [.int 0, .int (-1), .int 0, .ref l1])), (q_6, .inl (cy_7, 11, .inl (upd (upd (upd (upd (upd (upd (fun _ => 0) ((0 : Int32).toNatClampNeg) 0) ((1 : Int32).toNatClampNeg) 0) ((2 : Int32).toNatClampNeg) 0) ((3 : Int32).toNatClampNeg) 0) ((4 : Int32).toNatClampNeg) 0) ((5 : Int32).toNatClampNeg) 0))), (l1, .inr (1, [.int 0, .ref a0, .int 0]))] H := hP
  have hD : va_D A [(m0, .inr (12, [.int 0, .ref l1, .ref l2, .int 0, .int 0, .int 0, .long s0])), (l2, .inr (1, [.int 0, .ref a0, .int 0])), (q_1, .inl (cy_2, 5, .inl (fun _ => 0))), (r_3, .inr (0, [.int 0, .int (-1), .int 0, .ref l1])), (q_6, .inl (cy_7, 11, .inl (upd (upd (upd (upd (upd (upd (fun _ => 0) ((0 : Int32).toNatClampNeg) 0) ((1 : Int32).toNatClampNeg) 0) ((2 : Int32).toNatClampNeg) 0) ((3 : Int32).toNatClampNeg) 0) ((4 : Int32).toNatClampNeg) 0) ((5 : Int32).toNatClampNeg) 0))), (l1, .inr (1, [.int 0, .ref a0, .int 0]))] := hD
  refine lv_dup hx hb dX10_manyNow_105 rfl ?_
  refine lv_bipush (v := 6) hx hb dX10_manyNow_106 (by decide) ?_
  refine lv_aload_n hx hb dX10_manyNow_108 rfl (lv_at hl 3 rfl) ?_
  refine va_get (D := (dC, dI)) (ci := 12) (v := .ref l2) (C := RX10) (T := TX10) (N := 7) hx hb hts hiX10 hown hK hP 0 rfl rfl 2 (by decide) (hts (.fieldLink RX10 16 "HaltingaleModel" "tags" "Ljava/util/ArrayList;") (by decide +kernel)) (fun _ h9 => h9) rfl dX10_manyNow_109 ?_
  have hPc := hP.sub (ws' := [(l2, .inr (1, [.int 0, .ref a0, .int 0]))]) [1] rfl
  have hDc := hD.sub (ws' := [(l2, .inr (1, [.int 0, .ref a0, .int 0]))]) [1] (by decide) rfl
  have hKc := hK.sub (tys' := []) [] rfl
  have hFc := va_free (wc := [(l2, .inr (1, [.int 0, .ref a0, .int 0]))]) hD hS hA [1] rfl
  have hZc := ((hZ.kept hS.2.1).narrow hFc)
  refine va_calli (va_runV (As := []) (rest := [.int 6, .ref q_6, .ref q_6]) ⟨hx, hb, hml, hown, hts⟩ (c_Jx4a65c_size_8abf5 l hnt dC dI a0 l2 0 a0 0 H.size ) (cwV 0 hts (goodIn_of _ (by decide +kernel)) rfl rfl rfl (by decide +kernel) ⟨Nat.le_of_ble_eq_true rfl, Nat.le_of_ble_eq_true rfl⟩) ⟨fun a U g mk q => by obtain ⟨q0, q1, qP, qK, qD, qZ⟩ := q; exact ⟨q0, q1, qP, va_K.moved (u := U) (U := U.calling g mk a) (Vm.Alike.refl U.vm) qK, qD, qZ.call⟩, va_recv hKc hPc (ci := 1) (q0 := 0) rfl rfl, fun U hU hW => ⟨rfl, by rw [hU], by rw [hU]; exact hPc, va_K.moved hW.alike hKc, hDc.weaken (fun _ _ _ _ => trivial), by rw [hU]; exact hZc.warm hW⟩⟩ rfl rfl hl.1 rfl (lv_room (Nat.le_of_ble_eq_true rfl)) dX10_manyNow_112 ⟨Nat.le_of_ble_eq_true rfl, Nat.le_of_ble_eq_true rfl⟩) hS (fun q _ h => hFc q h) hFc (fun r_20 u t H1 locs ht hvm hw hB hz1 hk1 hS => ?_)
  obtain ⟨hP1, hK1, hD1⟩ := hB
  rw [ht] at hP1
  have hK1 := va_K.moved hvm.symm hK1
  obtain ⟨hP, hD⟩ := va_join (wr := [(m0, .inr (12, [.int 0, .ref l1, .ref l2, .int 0, .int 0, .int 0, .long s0])), (q_1, .inl (cy_2, 5, .inl (fun _ => 0))), (r_3, .inr (0, [.int 0, .int (-1), .int 0, .ref l1])), (q_6, .inl (cy_7, 11, .inl (upd (upd (upd (upd (upd (upd (fun _ => 0) ((0 : Int32).toNatClampNeg) 0) ((1 : Int32).toNatClampNeg) 0) ((2 : Int32).toNatClampNeg) 0) ((3 : Int32).toNatClampNeg) 0) ((4 : Int32).toNatClampNeg) 0) ((5 : Int32).toNatClampNeg) 0))), (l1, .inr (1, [.int 0, .ref a0, .int 0]))]) (w1 := [(l2, .inr (1, [.int 0, .ref a0, .int 0]))]) hP hD [1] [0, 2, 3, 4, 5] rfl rfl (by decide) (by decide) hk1 hFc hP1 hD1
  have hK := (hK.sub (tys' := [(cy_2, .int), (cy_7, .int)]) [0, 1] rfl).app hK1
  generalize H1 = H at hP hS ⊢
  have hP : va_P (dC, dI) vwCl [(m0, .inr (12, [.int 0, .ref l1, .ref l2, .int 0, .int 0, .int 0, .long s0])), (q_1, .inl (cy_2, 5, .inl (fun _ => 0))), (r_3, .inr (0, [.int 0, .int (-1), .int 0, .ref l1])), (q_6, .inl (cy_7, 11, .inl (upd (upd (upd (upd (upd (upd (fun _ => 0) ((0 : Int32).toNatClampNeg) 0) ((1 : Int32).toNatClampNeg) 0) ((2 : Int32).toNatClampNeg) 0) ((3 : Int32).toNatClampNeg) 0) ((4 : Int32).toNatClampNeg) 0) ((5 : Int32).toNatClampNeg) 0))), (l1, .inr (1, [.int 0, .ref a0, .int 0])), (l2, .inr (1, [.int 0, .ref a0, .int 0]))] H := hP
  have hD : va_D A [(m0, .inr (12, [.int 0, .ref l1, .ref l2, .int 0, .int 0, .int 0, .long s0])), (q_1, .inl (cy_2, 5, .inl (fun _ => 0))), (r_3, .inr (0, [.int 0, .int (-1), .int 0, .ref l1])), (q_6, .inl (cy_7, 11, .inl (upd (upd (upd (upd (upd (upd (fun _ => 0) ((0 : Int32).toNatClampNeg) 0) ((1 : Int32).toNatClampNeg) 0) ((2 : Int32).toNatClampNeg) 0) ((3 : Int32).toNatClampNeg) 0) ((4 : Int32).toNatClampNeg) 0) ((5 : Int32).toNatClampNeg) 0))), (l1, .inr (1, [.int 0, .ref a0, .int 0])), (l2, .inr (1, [.int 0, .ref a0, .int 0]))] := hD
  have hK : va_K (dC, dI) vwCl [(cy_2, .int), (cy_7, .int)] s := hK
  refine W.widen (k := 3) (n := 20) (Nat.le_of_ble_eq_true rfl) (Nat.le_of_ble_eq_true rfl) ?_
  obtain rfl : r_20 = 0 := hw
  refine va_iast hx hb hK hP hD hS 3 1 rfl rfl (by unfold vp_in; decide) dX10_manyNow_115 (fun H locs hP hD hS => ?_)
  have hP : va_P (dC, dI) vwCl [(m0, .inr (12, [.int 0, .ref l1, .ref l2, .int 0, .int 0, .int 0, .long s0])), (q_1, .inl (cy_2, 5, .inl (fun _ => 0))), (r_3, .inr (0, [.int 0, .int (-1), .int 0, .ref l1])), (q_6, .inl (cy_7, 11, .inl (upd (upd (upd (upd (upd (upd (upd (fun _ => 0) ((0 : Int32).toNatClampNeg) 0) ((1 : Int32).toNatClampNeg) 0) ((2 : Int32).toNatClampNeg) 0) ((3 : Int32).toNatClampNeg) 0) ((4 : Int32).toNatClampNeg) 0) ((5 : Int32).toNatClampNeg) 0) ((6 : Int32).toNatClampNeg) 0))), (l1, .inr (1, [.int 0, .ref a0, .int 0])), (l2, .inr (1, [.int 0, .ref a0, .int 0]))] H := hP
  have hD : va_D A [(m0, .inr (12, [.int 0, .ref l1, .ref l2, .int 0, .int 0, .int 0, .long s0])), (q_1, .inl (cy_2, 5, .inl (fun _ => 0))), (r_3, .inr (0, [.int 0, .int (-1), .int 0, .ref l1])), (q_6, .inl (cy_7, 11, .inl (upd (upd (upd (upd (upd (upd (upd (fun _ => 0) ((0 : Int32).toNatClampNeg) 0) ((1 : Int32).toNatClampNeg) 0) ((2 : Int32).toNatClampNeg) 0) ((3 : Int32).toNatClampNeg) 0) ((4 : Int32).toNatClampNeg) 0) ((5 : Int32).toNatClampNeg) 0) ((6 : Int32).toNatClampNeg) 0))), (l1, .inr (1, [.int 0, .ref a0, .int 0])), (l2, .inr (1, [.int 0, .ref a0, .int 0]))] := hD
  refine lv_dup hx hb dX10_manyNow_116 rfl ?_
  refine lv_bipush (v := 7) hx hb dX10_manyNow_117 (by decide) ?_
  refine lv_aload_n hx hb dX10_manyNow_119 rfl (lv_at hl 3 rfl) ?_
  refine va_get (D := (dC, dI)) (ci := 12) (v := .int 0) (C := RX10) (T := TX10) (N := 7) hx hb hts hiX10 hown hK hP 0 rfl rfl 3 (by decide) (hts (.fieldLink RX10 191 "HaltingaleModel" "given" "I") (by decide +kernel)) (fun _ h9 => h9) rfl dX10_manyNow_120 ?_
  refine va_iast hx hb hK hP hD hS 3 1 rfl rfl (by unfold vp_in; decide) dX10_manyNow_123 (fun H locs hP hD hS => ?_)
  have hP : va_P (dC, dI) vwCl [(m0, .inr (12, [.int 0, .ref l1, .ref l2, .int 0, .int 0, .int 0, .long s0])), (q_1, .inl (cy_2, 5, .inl (fun _ => 0))), (r_3, .inr (0, [.int 0, .int (-1), .int 0, .ref l1])), (q_6, .inl (cy_7, 11, .inl (upd (upd (upd (upd (upd (upd (upd (upd (fun _ => 0) ((0 : Int32).toNatClampNeg) 0) ((1 : Int32).toNatClampNeg) 0) ((2 : Int32).toNatClampNeg) 0) ((3 : Int32).toNatClampNeg) 0) ((4 : Int32).toNatClampNeg) 0) ((5 : Int32).toNatClampNeg) 0) ((6 : Int32).toNatClampNeg) 0) ((7 : Int32).toNatClampNeg) 0))), (l1, .inr (1, [.int 0, .ref a0, .int 0])), (l2, .inr (1, [.int 0, .ref a0, .int 0]))] H := hP
  have hD : va_D A [(m0, .inr (12, [.int 0, .ref l1, .ref l2, .int 0, .int 0, .int 0, .long s0])), (q_1, .inl (cy_2, 5, .inl (fun _ => 0))), (r_3, .inr (0, [.int 0, .int (-1), .int 0, .ref l1])), (q_6, .inl (cy_7, 11, .inl (upd (upd (upd (upd (upd (upd (upd (upd (fun _ => 0) ((0 : Int32).toNatClampNeg) 0) ((1 : Int32).toNatClampNeg) 0) ((2 : Int32).toNatClampNeg) 0) ((3 : Int32).toNatClampNeg) 0) ((4 : Int32).toNatClampNeg) 0) ((5 : Int32).toNatClampNeg) 0) ((6 : Int32).toNatClampNeg) 0) ((7 : Int32).toNatClampNeg) 0))), (l1, .inr (1, [.int 0, .ref a0, .int 0])), (l2, .inr (1, [.int 0, .ref a0, .int 0]))] := hD
  refine lv_dup hx hb dX10_manyNow_124 rfl ?_
  refine lv_bipush (v := 8) hx hb dX10_manyNow_125 (by decide) ?_
  refine lv_aload_n hx hb dX10_manyNow_127 rfl (lv_at hl 3 rfl) ?_
  refine va_get (D := (dC, dI)) (ci := 12) (v := .int 0) (C := RX10) (T := TX10) (N := 7) hx hb hts hiX10 hown hK hP 0 rfl rfl 4 (by decide) (hts (.fieldLink RX10 194 "HaltingaleModel" "taken" "I") (by decide +kernel)) (fun _ h9 => h9) rfl dX10_manyNow_128 ?_
  refine va_iast hx hb hK hP hD hS 3 1 rfl rfl (by unfold vp_in; decide) dX10_manyNow_131 (fun H locs hP hD hS => ?_)
  have hP : va_P (dC, dI) vwCl [(m0, .inr (12, [.int 0, .ref l1, .ref l2, .int 0, .int 0, .int 0, .long s0])), (q_1, .inl (cy_2, 5, .inl (fun _ => 0))), (r_3, .inr (0, [.int 0, .int (-1), .int 0, .ref l1])), (q_6, .inl (cy_7, 11, .inl (upd (upd (upd (upd (upd (upd (upd (upd (upd (fun _ => 0) ((0 : Int32).toNatClampNeg) 0) ((1 : Int32).toNatClampNeg) 0) ((2 : Int32).toNatClampNeg) 0) ((3 : Int32).toNatClampNeg) 0) ((4 : Int32).toNatClampNeg) 0) ((5 : Int32).toNatClampNeg) 0) ((6 : Int32).toNatClampNeg) 0) ((7 : Int32).toNatClampNeg) 0) ((8 : Int32).toNatClampNeg) 0))), (l1, .inr (1, [.int 0, .ref a0, .int 0])), (l2, .inr (1, [.int 0, .ref a0, .int 0]))] H := hP
  have hD : va_D A [(m0, .inr (12, [.int 0, .ref l1, .ref l2, .int 0, .int 0, .int 0, .long s0])), (q_1, .inl (cy_2, 5, .inl (fun _ => 0))), (r_3, .inr (0, [.int 0, .int (-1), .int 0, .ref l1])), (q_6, .inl (cy_7, 11, .inl (upd (upd (upd (upd (upd (upd (upd (upd (upd (fun _ => 0) ((0 : Int32).toNatClampNeg) 0) ((1 : Int32).toNatClampNeg) 0) ((2 : Int32).toNatClampNeg) 0) ((3 : Int32).toNatClampNeg) 0) ((4 : Int32).toNatClampNeg) 0) ((5 : Int32).toNatClampNeg) 0) ((6 : Int32).toNatClampNeg) 0) ((7 : Int32).toNatClampNeg) 0) ((8 : Int32).toNatClampNeg) 0))), (l1, .inr (1, [.int 0, .ref a0, .int 0])), (l2, .inr (1, [.int 0, .ref a0, .int 0]))] := hD
  refine lv_dup hx hb dX10_manyNow_132 rfl ?_
  refine lv_bipush (v := 9) hx hb dX10_manyNow_133 (by decide) ?_
  refine lv_aload_n hx hb dX10_manyNow_135 rfl (lv_at hl 3 rfl) ?_
  refine va_get (D := (dC, dI)) (ci := 12) (v := .int 0) (C := RX10) (T := TX10) (N := 7) hx hb hts hiX10 hown hK hP 0 rfl rfl 5 (by decide) (hts (.fieldLink RX10 67 "HaltingaleModel" "back" "I") (by decide +kernel)) (fun _ h9 => h9) rfl dX10_manyNow_136 ?_
  refine va_iast hx hb hK hP hD hS 3 1 rfl rfl (by unfold vp_in; decide) dX10_manyNow_139 (fun H locs hP hD hS => ?_)
  have hP : va_P (dC, dI) vwCl [(m0, .inr (12, [.int 0, .ref l1, .ref l2, .int 0, .int 0, .int 0, .long s0])), (q_1, .inl (cy_2, 5, .inl (fun _ => 0))), (r_3, .inr (0, [.int 0, .int (-1), .int 0, .ref l1])), (q_6, .inl (cy_7, 11, .inl (upd (upd (upd (upd (upd (upd (upd (upd (upd (upd (fun _ => 0) ((0 : Int32).toNatClampNeg) 0) ((1 : Int32).toNatClampNeg) 0) ((2 : Int32).toNatClampNeg) 0) ((3 : Int32).toNatClampNeg) 0) ((4 : Int32).toNatClampNeg) 0) ((5 : Int32).toNatClampNeg) 0) ((6 : Int32).toNatClampNeg) 0) ((7 : Int32).toNatClampNeg) 0) ((8 : Int32).toNatClampNeg) 0) ((9 : Int32).toNatClampNeg) 0))), (l1, .inr (1, [.int 0, .ref a0, .int 0])), (l2, .inr (1, [.int 0, .ref a0, .int 0]))] H := hP
  have hD : va_D A [(m0, .inr (12, [.int 0, .ref l1, .ref l2, .int 0, .int 0, .int 0, .long s0])), (q_1, .inl (cy_2, 5, .inl (fun _ => 0))), (r_3, .inr (0, [.int 0, .int (-1), .int 0, .ref l1])), (q_6, .inl (cy_7, 11, .inl (upd (upd (upd (upd (upd (upd (upd (upd (upd (upd (fun _ => 0) ((0 : Int32).toNatClampNeg) 0) ((1 : Int32).toNatClampNeg) 0) ((2 : Int32).toNatClampNeg) 0) ((3 : Int32).toNatClampNeg) 0) ((4 : Int32).toNatClampNeg) 0) ((5 : Int32).toNatClampNeg) 0) ((6 : Int32).toNatClampNeg) 0) ((7 : Int32).toNatClampNeg) 0) ((8 : Int32).toNatClampNeg) 0) ((9 : Int32).toNatClampNeg) 0))), (l1, .inr (1, [.int 0, .ref a0, .int 0])), (l2, .inr (1, [.int 0, .ref a0, .int 0]))] := hD
  refine lv_dup hx hb dX10_manyNow_140 rfl ?_
  refine lv_bipush (v := 10) hx hb dX10_manyNow_141 (by decide) ?_
  refine lv_iload_n hx hb dX10_manyNow_143 rfl (lv_at hl 1 rfl) ?_
  refine va_iast hx hb hK hP hD hS 3 1 rfl rfl (by unfold vp_in; decide) dX10_manyNow_144 (fun H locs hP hD hS => ?_)
  have hP : va_P (dC, dI) vwCl [(m0, .inr (12, [.int 0, .ref l1, .ref l2, .int 0, .int 0, .int 0, .long s0])), (q_1, .inl (cy_2, 5, .inl (fun _ => 0))), (r_3, .inr (0, [.int 0, .int (-1), .int 0, .ref l1])), (q_6, .inl (cy_7, 11, .inl (upd (upd (upd (upd (upd (upd (upd (upd (upd (upd (upd (fun _ => 0) ((0 : Int32).toNatClampNeg) 0) ((1 : Int32).toNatClampNeg) 0) ((2 : Int32).toNatClampNeg) 0) ((3 : Int32).toNatClampNeg) 0) ((4 : Int32).toNatClampNeg) 0) ((5 : Int32).toNatClampNeg) 0) ((6 : Int32).toNatClampNeg) 0) ((7 : Int32).toNatClampNeg) 0) ((8 : Int32).toNatClampNeg) 0) ((9 : Int32).toNatClampNeg) 0) ((10 : Int32).toNatClampNeg) 0))), (l1, .inr (1, [.int 0, .ref a0, .int 0])), (l2, .inr (1, [.int 0, .ref a0, .int 0]))] H := hP
  have hD : va_D A [(m0, .inr (12, [.int 0, .ref l1, .ref l2, .int 0, .int 0, .int 0, .long s0])), (q_1, .inl (cy_2, 5, .inl (fun _ => 0))), (r_3, .inr (0, [.int 0, .int (-1), .int 0, .ref l1])), (q_6, .inl (cy_7, 11, .inl (upd (upd (upd (upd (upd (upd (upd (upd (upd (upd (upd (fun _ => 0) ((0 : Int32).toNatClampNeg) 0) ((1 : Int32).toNatClampNeg) 0) ((2 : Int32).toNatClampNeg) 0) ((3 : Int32).toNatClampNeg) 0) ((4 : Int32).toNatClampNeg) 0) ((5 : Int32).toNatClampNeg) 0) ((6 : Int32).toNatClampNeg) 0) ((7 : Int32).toNatClampNeg) 0) ((8 : Int32).toNatClampNeg) 0) ((9 : Int32).toNatClampNeg) 0) ((10 : Int32).toNatClampNeg) 0))), (l1, .inr (1, [.int 0, .ref a0, .int 0])), (l2, .inr (1, [.int 0, .ref a0, .int 0]))] := hD
  refine lv_astore (lv' := [(4, .ref q_6), (3, .int 0), (2, .ref q_1), (0, .ref m0), (1, .int 6)]) hx hb dX10_manyNow_145 hl (by decide) rfl (fun ls hl => ?_)
  refine lv_aload hx hb dX10_manyNow_147 (lv_at hl 0 rfl) ?_
  refine lv_iload_n hx hb dX10_manyNow_149 rfl (lv_at hl 4 rfl) ?_
  refine va_iald hx hb hK hP 3 1 rfl rfl (by unfold vp_in; decide) dX10_manyNow_150 ?_
  refine lv_topi (fun x_26 ex_26 => ?_)
  obtain rfl : x_26 = 0 := ex_26.trans (by decide +kernel)
  have hP9 := hP.sub (ws' := [(m0, .inr (12, [.int 0, .ref l1, .ref l2, .int 0, .int 0, .int 0, .long s0])), (l1, .inr (1, [.int 0, .ref a0, .int 0])), (l2, .inr (1, [.int 0, .ref a0, .int 0]))]) [0, 4, 5] rfl
  have hD9 := hD.sub (ws' := [(m0, .inr (12, [.int 0, .ref l1, .ref l2, .int 0, .int 0, .int 0, .long s0])), (l1, .inr (1, [.int 0, .ref a0, .int 0])), (l2, .inr (1, [.int 0, .ref a0, .int 0]))]) [0, 4, 5] (by decide) rfl
  have hK9 := hK.sub (tys' := []) [] rfl
  refine W.widen (k := 3) (n := 20) (Nat.le_of_ble_eq_true rfl) (Nat.le_of_ble_eq_true rfl) ?_
  exact W.iret (v := 0) hx hb hr (fun t ht hW => ⟨⟨0, (), rfl, rfl, ⟨by rw [ht]; exact hP9, va_K.moved hW.alike hK9, hD9⟩⟩, hS.F ht⟩) hS.2.2 dX10_manyNow_151

def zs_c_X10_manyNow_7 : List Cond := .code yX10_manyNow cX10_manyNow 6 (some .int) :: (([.arrayClass .int, .fieldLink RX10 10 "HaltingaleModel" "machines" "Ljava/util/ArrayList;", .code yJx4a65c_iterator_32c93 cJx4a65c_iterator_32c93 1 (some (.object "java/util/Iterator")), .classLink RJx4a65c 267 RJx35411, .instantiable RJx35411 4, .initialized RJx35411, .code yJx35411_init_45d68 cJx35411_init_45d68 2 none, .fieldLink RJx35411 1 "java/util/ArrayList$Itr" "this$0" "Ljava/util/ArrayList;", .methodLink RJx35411 7 objectInit, .instanceMethod objectInit, .code objectInit ⟨#[0xb1]⟩ 1 none, .fieldLink RJx35411 13 "java/util/ArrayList$Itr" "lastRet" "I", .sameField "java/util/ArrayList" "java/util/AbstractList" "modCount" "I", .fieldLink RJx35411 17 "java/util/ArrayList" "modCount" "I", .fieldLink RJx35411 22 "java/util/ArrayList$Itr" "expectedModCount" "I", .methodLink RJx4a65c 269 yJx35411_init_45d68, .instanceMethod yJx35411_init_45d68, .methodLink RX10 158 yJx4a65c_iterator_32c93, .instanceMethod yJx4a65c_iterator_32c93, .initialized RJx4a65c, .selects RJx4a65c yJx4a65c_iterator_32c93 yJx4a65c_iterator_32c93, .code yJx35411_hasNext_aae02 cJx35411_hasNext_aae02 1 (some .boolean), .fieldLink RJx35411 25 "java/util/ArrayList$Itr" "cursor" "I", .methodLink RX10 162 ⟨"java/util/Iterator", "hasNext", "()Z"⟩, .instanceMethod yJx35411_hasNext_aae02, .selects RJx35411 ⟨"java/util/Iterator", "hasNext", "()Z"⟩ yJx35411_hasNext_aae02, .code yJx4a65c_size_8abf5 cJx4a65c_size_8abf5 1 (some .int), .fieldLink RJx4a65c 48 "java/util/ArrayList" "size" "I", .methodLink RX10 23 yJx4a65c_size_8abf5, .instanceMethod yJx4a65c_size_8abf5, .selects RJx4a65c yJx4a65c_size_8abf5 yJx4a65c_size_8abf5, .fieldLink RX10 16 "HaltingaleModel" "tags" "Ljava/util/ArrayList;", .fieldLink RX10 191 "HaltingaleModel" "given" "I", .fieldLink RX10 194 "HaltingaleModel" "taken" "I", .fieldLink RX10 67 "HaltingaleModel" "back" "I"] : List Cond) ++ wsX100 ++ wsJx354110 ++ wsJx4a65c0)
set_option maxHeartbeats 4000000 in
set_option maxRecDepth 100000 in
/-- manyNow of 7 -/
theorem c_X10_manyNow_7 (l : Launch) (hnt : l.stackTraces = false) (dC : Nat → ClassId) (dI : Nat → Nat → Nat) (a0 : Nat) (m0 : Nat) (l1 : Nat) (l2 : Nat) (s0 : Int64) (sz : Nat)  : Met l yX10_manyNow zs_c_X10_manyNow_7 ({ frames := 3, cells := 3, slots := 20, locals := 53 }) (va_Pc [.ref m0, .int 7] (fun U => U.heap.size = sz ∧ va_P (dC, dI) vwCl [(m0, .inr (12, [.int 0, .ref l1, .ref l2, .int 0, .int 0, .int 0, .long s0])), (l1, .inr (1, [.int 0, .ref a0, .int 0])), (l2, .inr (1, [.int 0, .ref a0, .int 0]))] U.heap ∧ va_K (dC, dI) vwCl [] U ∧ va_D (fun _ => True) [(m0, .inr (12, [.int 0, .ref l1, .ref l2, .int 0, .int 0, .int 0, .long s0])), (l1, .inr (1, [.int 0, .ref a0, .int 0])), (l2, .inr (1, [.int 0, .ref a0, .int 0]))] ∧ zB a0 (va_A [(m0, .inr (12, [.int 0, .ref l1, .ref l2, .int 0, .int 0, .int 0, .long s0])), (l1, .inr (1, [.int 0, .ref a0, .int 0])), (l2, .inr (1, [.int 0, .ref a0, .int 0]))] sz) U U.heap)) (va_Qi (fun (r : Int32) (_ : Unit) => r = 0) (fun _ t => va_P (dC, dI) vwCl [(m0, .inr (12, [.int 0, .ref l1, .ref l2, .int 0, .int 0, .int 0, .long s0])), (l1, .inr (1, [.int 0, .ref a0, .int 0])), (l2, .inr (1, [.int 0, .ref a0, .int 0]))] t.heap ∧ va_K (dC, dI) vwCl [] t ∧ va_D (va_A [(m0, .inr (12, [.int 0, .ref l1, .ref l2, .int 0, .int 0, .int 0, .long s0])), (l1, .inr (1, [.int 0, .ref a0, .int 0])), (l2, .inr (1, [.int 0, .ref a0, .int 0]))] sz) [(m0, .inr (12, [.int 0, .ref l1, .ref l2, .int 0, .int 0, .int 0, .long s0])), (l1, .inr (1, [.int 0, .ref a0, .int 0])), (l2, .inr (1, [.int 0, .ref a0, .int 0]))]) (va_A [(m0, .inr (12, [.int 0, .ref l1, .ref l2, .int 0, .int 0, .int 0, .long s0])), (l1, .inr (1, [.int 0, .ref a0, .int 0])), (l2, .inr (1, [.int 0, .ref a0, .int 0]))] sz)) 3 20 (va_A [(m0, .inr (12, [.int 0, .ref l1, .ref l2, .int 0, .int 0, .int 0, .long s0])), (l1, .inr (1, [.int 0, .ref a0, .int 0])), (l2, .inr (1, [.int 0, .ref a0, .int 0]))] sz) := by
  refine Met.ofW (cc := cX10_manyNow) (maxL := 6) (ret := (some .int)) (by decide) rfl ?_
  intro p e s m args below meth c s₁ B hml hv
  obtain ⟨rfl, hsz, hP, hK, hD0, hZ⟩ := hv
  have hx := B.exec
  have hb := B.bytes
  have hr := B.returns
  have hts := atoms_spec (ws := zs_c_X10_manyNow_7) B.pre
  have hown : s.vm.findClass RX10 = some m.cls := findClass_of_methodNamed B.named
  have hlocks := B.notSynchronized
  have hiX10 : ∀ w ∈ wsX100, w ∈ zs_c_X10_manyNow_7 := by decide +kernel
  subst hsz
  have hD := hD0.self (sz := s.heap.size)
  generalize hAe : va_A [(m0, .inr (12, [.int 0, .ref l1, .ref l2, .int 0, .int 0, .int 0, .long s0])), (l1, .inr (1, [.int 0, .ref a0, .int 0])), (l2, .inr (1, [.int 0, .ref a0, .int 0]))] s.heap.size = A at hD hZ ⊢
  have hA : ∀ q : Nat, s.heap.size ≤ q → A q := fun q h => by rw [← hAe]; exact Or.inr h
  have hS : va_S A s.heap s.heap [] := va_S.rf
  have hl := lv_entry ([.ref m0, .int 7]) (n := 6) (Nat.le_of_ble_eq_true rfl)
  rw [lg_entry_eq]
  generalize (lg_sl ([.ref m0, .int 7]) ++ List.replicate (6 - (lg_sl ([.ref m0, .int 7])).length) Slot.unset).toArray = ls at hl ⊢
  have hl : lv_has ls 6 [(0, .ref m0), (1, .int 7)] := hl
  refine lv_iconst (v := 5) hx hb dX10_manyNow_0 (by decide) ?_
  refine va_newa (atype := .int) (ty := .int) (N' := 5) (a0 := (5, .inl (fun _ => 0))) hx hb (hts (.arrayClass .int) (by decide +kernel)) rfl hK hP hD hS hA (fun _ => rfl) (by decide) (by decide) (Nat.le_of_ble_eq_true rfl) (Nat.le_of_ble_eq_true rfl) (Nat.le_of_ble_eq_true rfl) dX10_manyNow_1 (fun q_1 cy_2 H hK hP hD hS => ?_)
  have hK : va_K (dC, dI) vwCl [(cy_2, .int)] s := hK
  have hP : va_P (dC, dI) vwCl [(m0, .inr (12, [.int 0, .ref l1, .ref l2, .int 0, .int 0, .int 0, .long s0])), (l1, .inr (1, [.int 0, .ref a0, .int 0])), (l2, .inr (1, [.int 0, .ref a0, .int 0])), (q_1, .inl (cy_2, 5, .inl (fun _ => 0)))] H := hP
  have hD : va_D A [(m0, .inr (12, [.int 0, .ref l1, .ref l2, .int 0, .int 0, .int 0, .long s0])), (l1, .inr (1, [.int 0, .ref a0, .int 0])), (l2, .inr (1, [.int 0, .ref a0, .int 0])), (q_1, .inl (cy_2, 5, .inl (fun _ => 0)))] := hD
  refine W.widen (k := 1) (n := 5) (Nat.le_of_ble_eq_true rfl) (Nat.le_of_ble_eq_true rfl) ?_
  refine lv_astore_n (lv' := [(2, .ref q_1), (0, .ref m0), (1, .int 7)]) hx hb dX10_manyNow_3 rfl hl (by decide) rfl (fun ls hl => ?_)
  refine lv_iconst (v := 0) hx hb dX10_manyNow_4 (by decide) ?_
  refine lv_istore_n (lv' := [(3, .int 0), (2, .ref q_1), (0, .ref m0), (1, .int 7)]) hx hb dX10_manyNow_5 rfl hl (by decide) rfl (fun ls hl => ?_)
  refine lv_aload_n hx hb dX10_manyNow_6 rfl (lv_at hl 2 rfl) ?_
  refine va_get (D := (dC, dI)) (ci := 12) (v := .ref l1) (C := RX10) (T := TX10) (N := 7) hx hb hts hiX10 hown hK hP 0 rfl rfl 1 (by decide) (hts (.fieldLink RX10 10 "HaltingaleModel" "machines" "Ljava/util/ArrayList;") (by decide +kernel)) (fun _ h9 => h9) rfl dX10_manyNow_7 ?_
  have hPc := hP.sub (ws' := [(l1, .inr (1, [.int 0, .ref a0, .int 0]))]) [1] rfl
  have hDc := hD.sub (ws' := [(l1, .inr (1, [.int 0, .ref a0, .int 0]))]) [1] (by decide) rfl
  have hKc := hK.sub (tys' := []) [] rfl
  have hFc := va_free (wc := [(l1, .inr (1, [.int 0, .ref a0, .int 0]))]) hD hS hA [1] rfl
  have hZc := ((hZ.kept hS.2.1).narrow hFc)
  refine va_callr (va_runV (As := []) (rest := []) ⟨hx, hb, hml, hown, hts⟩ (c_Jx4a65c_iterator_32c93 l hnt dC dI a0 l1 H.size ) (cwV 0 hts (goodIn_of _ (by decide +kernel)) rfl rfl rfl (by decide +kernel) ⟨Nat.le_of_ble_eq_true rfl, Nat.le_of_ble_eq_true rfl⟩) ⟨fun a U g mk q => by obtain ⟨q0, q1, qP, qK, qD, qZ⟩ := q; exact ⟨q0, q1, qP, va_K.moved (u := U) (U := U.calling g mk a) (Vm.Alike.refl U.vm) qK, qD, qZ.call⟩, va_recv hKc hPc (ci := 1) (q0 := 0) rfl rfl, fun U hU hW => ⟨rfl, by rw [hU], by rw [hU]; exact hPc, va_K.moved hW.alike hKc, hDc.weaken (fun _ _ _ _ => trivial), by rw [hU]; exact hZc.warm hW⟩⟩ rfl rfl hl.1 rfl (lv_room (Nat.le_of_ble_eq_true rfl)) dX10_manyNow_10 ⟨Nat.le_of_ble_eq_true rfl, Nat.le_of_ble_eq_true rfl⟩) hS (fun q _ h => hFc q h) hFc (fun u r_3 t H1 locs ht hvm hw hB hz1 hk1 hS => ?_)
  obtain ⟨hP1, hK1, hD1⟩ := hB
  rw [ht] at hP1
  have hK1 := va_K.moved hvm.symm hK1
  obtain ⟨hP, hD⟩ := va_join (wr := [(m0, .inr (12, [.int 0, .ref l1, .ref l2, .int 0, .int 0, .int 0, .long s0])), (l2, .inr (1, [.int 0, .ref a0, .int 0])), (q_1, .inl (cy_2, 5, .inl (fun _ => 0)))]) (w1 := [(r_3, .inr (0, [.int 0, .int (-1), .int 0, .ref l1])), (l1, .inr (1, [.int 0, .ref a0, .int 0]))]) hP hD [1] [0, 2, 3] rfl rfl (by decide) (by decide) hk1 hFc hP1 hD1
  have hK := (hK.sub (tys' := [(cy_2, .int)]) [0] rfl).app hK1
  generalize H1 = H at hP hS ⊢
  have hP : va_P (dC, dI) vwCl [(m0, .inr (12, [.int 0, .ref l1, .ref l2, .int 0, .int 0, .int 0, .long s0])), (l2, .inr (1, [.int 0, .ref a0, .int 0])), (q_1, .inl (cy_2, 5, .inl (fun _ => 0))), (r_3, .inr (0, [.int 0, .int (-1), .int 0, .ref l1])), (l1, .inr (1, [.int 0, .ref a0, .int 0]))] H := hP
  have hD : va_D A [(m0, .inr (12, [.int 0, .ref l1, .ref l2, .int 0, .int 0, .int 0, .long s0])), (l2, .inr (1, [.int 0, .ref a0, .int 0])), (q_1, .inl (cy_2, 5, .inl (fun _ => 0))), (r_3, .inr (0, [.int 0, .int (-1), .int 0, .ref l1])), (l1, .inr (1, [.int 0, .ref a0, .int 0]))] := hD
  have hK : va_K (dC, dI) vwCl [(cy_2, .int)] s := hK
  refine W.widen (k := 2) (n := 9) (Nat.le_of_ble_eq_true rfl) (Nat.le_of_ble_eq_true rfl) ?_
  refine lv_astore (lv' := [(4, .ref r_3), (3, .int 0), (2, .ref q_1), (0, .ref m0), (1, .int 7)]) hx hb dX10_manyNow_13 hl (by decide) rfl (fun ls hl => ?_)
  refine lv_aload hx hb dX10_manyNow_15 (lv_at hl 0 rfl) ?_
  have hPc := hP.sub (ws' := [(r_3, .inr (0, [.int 0, .int (-1), .int 0, .ref l1])), (l1, .inr (1, [.int 0, .ref a0, .int 0]))]) [3, 4] rfl
  have hDc := hD.sub (ws' := [(r_3, .inr (0, [.int 0, .int (-1), .int 0, .ref l1])), (l1, .inr (1, [.int 0, .ref a0, .int 0]))]) [3, 4] (by decide) rfl
  have hKc := hK.sub (tys' := []) [] rfl
  have hFc := va_free (wc := [(r_3, .inr (0, [.int 0, .int (-1), .int 0, .ref l1])), (l1, .inr (1, [.int 0, .ref a0, .int 0]))]) hD hS hA [3, 4] rfl
  have hZc := ((hZ.kept hS.2.1).narrow hFc)
  refine va_callFi (va_runF (As := []) (rest := []) (zz_at hK 0 rfl) ⟨hx, hb, hml, hown, hts⟩ (c_Jx35411_hasNext_aae02 l hnt dC dI a0 r_3 l1 H.size ) (va_cwF 0 hts (goodIn_of _ (by decide +kernel)) rfl rfl rfl hZ.fwN (by decide +kernel) ⟨Nat.le_of_ble_eq_true rfl, Nat.le_of_ble_eq_true rfl⟩) ⟨fun a U g mk q => by obtain ⟨q0, q1, qP, qK, qD, qZ⟩ := q; exact ⟨q0, q1, qP, va_K.moved (u := U) (U := U.calling g mk a) (Vm.Alike.refl U.vm) qK, qD, qZ.call⟩, va_recv hKc hPc (ci := 0) (q0 := 0) rfl rfl, fun U hU hW => ⟨rfl, by rw [hU], by rw [hU]; exact hPc, va_K.moved hW.alike hKc, hDc.weaken (fun _ _ _ _ => trivial), by rw [hU]; exact hZc.warm hW⟩⟩ rfl rfl hl.1 rfl (lv_room (Nat.le_of_ble_eq_true rfl)) dX10_manyNow_17 ⟨Nat.le_of_ble_eq_true rfl, Nat.le_of_ble_eq_true rfl⟩) hS (fun q _ h => hFc q h) hFc (fun r_4 u t H1 locs ht hvm hw hB hz1 hk1 hS => ?_)
  obtain ⟨hP1, hK1, hD1⟩ := hB
  rw [ht] at hP1
  have hK1 := va_K.moved hvm.symm hK1
  obtain ⟨hP, hD⟩ := va_join (wr := [(m0, .inr (12, [.int 0, .ref l1, .ref l2, .int 0, .int 0, .int 0, .long s0])), (l2, .inr (1, [.int 0, .ref a0, .int 0])), (q_1, .inl (cy_2, 5, .inl (fun _ => 0)))]) (w1 := [(r_3, .inr (0, [.int 0, .int (-1), .int 0, .ref l1])), (l1, .inr (1, [.int 0, .ref a0, .int 0]))]) hP hD [3, 4] [0, 1, 2] rfl rfl (by decide) (by decide) hk1 hFc hP1 hD1
  have hK := (hK.sub (tys' := [(cy_2, .int)]) [0] rfl).app hK1
  generalize H1 = H at hP hS ⊢
  have hP : va_P (dC, dI) vwCl [(m0, .inr (12, [.int 0, .ref l1, .ref l2, .int 0, .int 0, .int 0, .long s0])), (l2, .inr (1, [.int 0, .ref a0, .int 0])), (q_1, .inl (cy_2, 5, .inl (fun _ => 0))), (r_3, .inr (0, [.int 0, .int (-1), .int 0, .ref l1])), (l1, .inr (1, [.int 0, .ref a0, .int 0]))] H := hP
  have hD : va_D A [(m0, .inr (12, [.int 0, .ref l1, .ref l2, .int 0, .int 0, .int 0, .long s0])), (l2, .inr (1, [.int 0, .ref a0, .int 0])), (q_1, .inl (cy_2, 5, .inl (fun _ => 0))), (r_3, .inr (0, [.int 0, .int (-1), .int 0, .ref l1])), (l1, .inr (1, [.int 0, .ref a0, .int 0]))] := hD
  have hK : va_K (dC, dI) vwCl [(cy_2, .int)] s := hK
  refine W.widen (k := 2) (n := 9) (Nat.le_of_ble_eq_true rfl) (Nat.le_of_ble_eq_true rfl) ?_
  obtain rfl : r_4 = 0 := hw
  refine lv_if_eq (tgt := 61) hx hb dX10_manyNow_22 (by decide) (fun c_5 => ?_) (fun c_5 => ?_)
  rotate_left
  · (first | exact absurd c_5 (by decide) | exact absurd (by decide) c_5)
  refine lv_bipush (v := 11) hx hb dX10_manyNow_61 (by decide) ?_
  refine va_newa (atype := .int) (ty := .int) (N' := 11) (a0 := (11, .inl (fun _ => 0))) hx hb (hts (.arrayClass .int) (by decide +kernel)) rfl hK hP hD hS hA (fun _ => rfl) (by decide) (by decide) (Nat.le_of_ble_eq_true rfl) (Nat.le_of_ble_eq_true rfl) (Nat.le_of_ble_eq_true rfl) dX10_manyNow_63 (fun q_6 cy_7 H hK hP hD hS => ?_)
  have hK : va_K (dC, dI) vwCl [(cy_2, .int), (cy_7, .int)] s := hK
  have hP : va_P (dC, dI) vwCl [(m0, .inr (12, [.int 0, .ref l1, .ref l2, .int 0, .int 0, .int 0, .long s0])), (l2, .inr (1, [.int 0, .ref a0, .int 0])), (q_1, .inl (cy_2, 5, .inl (fun _ => 0))), (r_3, .inr (0, [.int 0, .int (-1), .int 0, .ref l1])), (l1, .inr (1, [.int 0, .ref a0, .int 0])), (q_6, .inl (cy_7, 11, .inl (fun _ => 0)))] H := hP
  have hD : va_D A [(m0, .inr (12, [.int 0, .ref l1, .ref l2, .int 0, .int 0, .int 0, .long s0])), (l2, .inr (1, [.int 0, .ref a0, .int 0])), (q_1, .inl (cy_2, 5, .inl (fun _ => 0))), (r_3, .inr (0, [.int 0, .int (-1), .int 0, .ref l1])), (l1, .inr (1, [.int 0, .ref a0, .int 0])), (q_6, .inl (cy_7, 11, .inl (fun _ => 0)))] := hD
  refine W.widen (k := 3) (n := 20) (Nat.le_of_ble_eq_true rfl) (Nat.le_of_ble_eq_true rfl) ?_
  refine lv_dup hx hb dX10_manyNow_65 rfl ?_
  refine lv_iconst (v := 0) hx hb dX10_manyNow_66 (by decide) ?_
  refine lv_aload_n hx hb dX10_manyNow_67 rfl (lv_at hl 3 rfl) ?_
  refine va_get (D := (dC, dI)) (ci := 12) (v := .ref l1) (C := RX10) (T := TX10) (N := 7) hx hb hts hiX10 hown hK hP 0 rfl rfl 1 (by decide) (hts (.fieldLink RX10 10 "HaltingaleModel" "machines" "Ljava/util/ArrayList;") (by decide +kernel)) (fun _ h9 => h9) rfl dX10_manyNow_68 ?_
  have hPc := hP.sub (ws' := [(l1, .inr (1, [.int 0, .ref a0, .int 0]))]) [4] rfl
  have hDc := hD.sub (ws' := [(l1, .inr (1, [.int 0, .ref a0, .int 0]))]) [4] (by decide) rfl
  have hKc := hK.sub (tys' := []) [] rfl
  have hFc := va_free (wc := [(l1, .inr (1, [.int 0, .ref a0, .int 0]))]) hD hS hA [4] rfl
  have hZc := ((hZ.kept hS.2.1).narrow hFc)
  refine va_calli (va_runV (As := []) (rest := [.int 0, .ref q_6, .ref q_6]) ⟨hx, hb, hml, hown, hts⟩ (c_Jx4a65c_size_8abf5 l hnt dC dI a0 l1 0 a0 0 H.size ) (cwV 0 hts (goodIn_of _ (by decide +kernel)) rfl rfl rfl (by decide +kernel) ⟨Nat.le_of_ble_eq_true rfl, Nat.le_of_ble_eq_true rfl⟩) ⟨fun a U g mk q => by obtain ⟨q0, q1, qP, qK, qD, qZ⟩ := q; exact ⟨q0, q1, qP, va_K.moved (u := U) (U := U.calling g mk a) (Vm.Alike.refl U.vm) qK, qD, qZ.call⟩, va_recv hKc hPc (ci := 1) (q0 := 0) rfl rfl, fun U hU hW => ⟨rfl, by rw [hU], by rw [hU]; exact hPc, va_K.moved hW.alike hKc, hDc.weaken (fun _ _ _ _ => trivial), by rw [hU]; exact hZc.warm hW⟩⟩ rfl rfl hl.1 rfl (lv_room (Nat.le_of_ble_eq_true rfl)) dX10_manyNow_71 ⟨Nat.le_of_ble_eq_true rfl, Nat.le_of_ble_eq_true rfl⟩) hS (fun q _ h => hFc q h) hFc (fun r_8 u t H1 locs ht hvm hw hB hz1 hk1 hS => ?_)
  obtain ⟨hP1, hK1, hD1⟩ := hB
  rw [ht] at hP1
  have hK1 := va_K.moved hvm.symm hK1
  obtain ⟨hP, hD⟩ := va_join (wr := [(m0, .inr (12, [.int 0, .ref l1, .ref l2, .int 0, .int 0, .int 0, .long s0])), (l2, .inr (1, [.int 0, .ref a0, .int 0])), (q_1, .inl (cy_2, 5, .inl (fun _ => 0))), (r_3, .inr (0, [.int 0, .int (-1), .int 0, .ref l1])), (q_6, .inl (cy_7, 11, .inl (fun _ => 0)))]) (w1 := [(l1, .inr (1, [.int 0, .ref a0, .int 0]))]) hP hD [4] [0, 1, 2, 3, 5] rfl rfl (by decide) (by decide) hk1 hFc hP1 hD1
  have hK := (hK.sub (tys' := [(cy_2, .int), (cy_7, .int)]) [0, 1] rfl).app hK1
  generalize H1 = H at hP hS ⊢
  have hP : va_P (dC, dI) vwCl [(m0, .inr (12, [.int 0, .ref l1, .ref l2, .int 0, .int 0, .int 0, .long s0])), (l2, .inr (1, [.int 0, .ref a0, .int 0])), (q_1, .inl (cy_2, 5, .inl (fun _ => 0))), (r_3, .inr (0, [.int 0, .int (-1), .int 0, .ref l1])), (q_6, .inl (cy_7, 11, .inl (fun _ => 0))), (l1, .inr (1, [.int 0, .ref a0, .int 0]))] H := hP
  have hD : va_D A [(m0, .inr (12, [.int 0, .ref l1, .ref l2, .int 0, .int 0, .int 0, .long s0])), (l2, .inr (1, [.int 0, .ref a0, .int 0])), (q_1, .inl (cy_2, 5, .inl (fun _ => 0))), (r_3, .inr (0, [.int 0, .int (-1), .int 0, .ref l1])), (q_6, .inl (cy_7, 11, .inl (fun _ => 0))), (l1, .inr (1, [.int 0, .ref a0, .int 0]))] := hD
  have hK : va_K (dC, dI) vwCl [(cy_2, .int), (cy_7, .int)] s := hK
  refine W.widen (k := 3) (n := 20) (Nat.le_of_ble_eq_true rfl) (Nat.le_of_ble_eq_true rfl) ?_
  obtain rfl : r_8 = 0 := hw
  refine va_iast hx hb hK hP hD hS 4 1 rfl rfl (by unfold vp_in; decide) dX10_manyNow_74 (fun H locs hP hD hS => ?_)
  have hP : va_P (dC, dI) vwCl [(m0, .inr (12, [.int 0, .ref l1, .ref l2, .int 0, .int 0, .int 0, .long s0])), (l2, .inr (1, [.int 0, .ref a0, .int 0])), (q_1, .inl (cy_2, 5, .inl (fun _ => 0))), (r_3, .inr (0, [.int 0, .int (-1), .int 0, .ref l1])), (q_6, .inl (cy_7, 11, .inl (upd (fun _ => 0) ((0 : Int32).toNatClampNeg) 0))), (l1, .inr (1, [.int 0, .ref a0, .int 0]))] H := hP
  have hD : va_D A [(m0, .inr (12, [.int 0, .ref l1, .ref l2, .int 0, .int 0, .int 0, .long s0])), (l2, .inr (1, [.int 0, .ref a0, .int 0])), (q_1, .inl (cy_2, 5, .inl (fun _ => 0))), (r_3, .inr (0, [.int 0, .int (-1), .int 0, .ref l1])), (q_6, .inl (cy_7, 11, .inl (upd (fun _ => 0) ((0 : Int32).toNatClampNeg) 0))), (l1, .inr (1, [.int 0, .ref a0, .int 0]))] := hD
  refine lv_dup hx hb dX10_manyNow_75 rfl ?_
  refine lv_iconst (v := 1) hx hb dX10_manyNow_76 (by decide) ?_
  refine lv_aload_n hx hb dX10_manyNow_77 rfl (lv_at hl 2 rfl) ?_
  refine lv_iconst (v := 0) hx hb dX10_manyNow_78 (by decide) ?_
  refine va_iald hx hb hK hP 2 0 rfl rfl (by unfold vp_in; decide) dX10_manyNow_79 ?_
  refine lv_topi (fun x_10 ex_10 => ?_)
  obtain rfl : x_10 = 0 := ex_10.trans (by decide +kernel)
  refine va_iast hx hb hK hP hD hS 4 1 rfl rfl (by unfold vp_in; decide) dX10_manyNow_80 (fun H locs hP hD hS => ?_)
  have hP : va_P (dC, dI) vwCl [(m0, .inr (12, [.int 0, .ref l1, .ref l2, .int 0, .int 0, .int 0, .long s0])), (l2, .inr (1, [.int 0, .ref a0, .int 0])), (q_1, .inl (cy_2, 5, .inl (fun _ => 0))), (r_3, .inr (0, [.int 0, .int (-1), .int 0, .ref l1])), (q_6, .inl (cy_7, 11, .inl (upd (upd (fun _ => 0) ((0 : Int32).toNatClampNeg) 0) ((1 : Int32).toNatClampNeg) 0))), (l1, .inr (1, [.int 0, .ref a0, .int 0]))] H := hP
  have hD : va_D A [(m0, .inr (12, [.int 0, .ref l1, .ref l2, .int 0, .int 0, .int 0, .long s0])), (l2, .inr (1, [.int 0, .ref a0, .int 0])), (q_1, .inl (cy_2, 5, .inl (fun _ => 0))), (r_3, .inr (0, [.int 0, .int (-1), .int 0, .ref l1])), (q_6, .inl (cy_7, 11, .inl (upd (upd (fun _ => 0) ((0 : Int32).toNatClampNeg) 0) ((1 : Int32).toNatClampNeg) 0))), (l1, .inr (1, [.int 0, .ref a0, .int 0]))] := hD
  refine lv_dup hx hb dX10_manyNow_81 rfl ?_
  refine lv_iconst (v := 2) hx hb dX10_manyNow_82 (by decide) ?_
  refine lv_aload_n hx hb dX10_manyNow_83 rfl (lv_at hl 2 rfl) ?_
  refine lv_iconst (v := 1) hx hb dX10_manyNow_84 (by decide) ?_
  refine va_iald hx hb hK hP 2 0 rfl rfl (by unfold vp_in; decide) dX10_manyNow_85 ?_
  refine lv_topi (fun x_12 ex_12 => ?_)
  obtain rfl : x_12 = 0 := ex_12.trans (by decide +kernel)
  refine va_iast hx hb hK hP hD hS 4 1 rfl rfl (by unfold vp_in; decide) dX10_manyNow_86 (fun H locs hP hD hS => ?_)
  have hP : va_P (dC, dI) vwCl [(m0, .inr (12, [.int 0, .ref l1, .ref l2, .int 0, .int 0, .int 0, .long s0])), (l2, .inr (1, [.int 0, .ref a0, .int 0])), (q_1, .inl (cy_2, 5, .inl (fun _ => 0))), (r_3, .inr (0, [.int 0, .int (-1), .int 0, .ref l1])), (q_6, .inl (cy_7, 11, .inl (upd (upd (upd (fun _ => 0) ((0 : Int32).toNatClampNeg) 0) ((1 : Int32).toNatClampNeg) 0) ((2 : Int32).toNatClampNeg) 0))), (l1, .inr (1, [.int 0, .ref a0, .int 0]))] H := hP
  have hD : va_D A [(m0, .inr (12, [.int 0, .ref l1, .ref l2, .int 0, .int 0, .int 0, .long s0])), (l2, .inr (1, [.int 0, .ref a0, .int 0])), (q_1, .inl (cy_2, 5, .inl (fun _ => 0))), (r_3, .inr (0, [.int 0, .int (-1), .int 0, .ref l1])), (q_6, .inl (cy_7, 11, .inl (upd (upd (upd (fun _ => 0) ((0 : Int32).toNatClampNeg) 0) ((1 : Int32).toNatClampNeg) 0) ((2 : Int32).toNatClampNeg) 0))), (l1, .inr (1, [.int 0, .ref a0, .int 0]))] := hD
  refine lv_dup hx hb dX10_manyNow_87 rfl ?_
  refine lv_iconst (v := 3) hx hb dX10_manyNow_88 (by decide) ?_
  refine lv_aload_n hx hb dX10_manyNow_89 rfl (lv_at hl 2 rfl) ?_
  refine lv_iconst (v := 2) hx hb dX10_manyNow_90 (by decide) ?_
  refine va_iald hx hb hK hP 2 0 rfl rfl (by unfold vp_in; decide) dX10_manyNow_91 ?_
  refine lv_topi (fun x_14 ex_14 => ?_)
  obtain rfl : x_14 = 0 := ex_14.trans (by decide +kernel)
  refine va_iast hx hb hK hP hD hS 4 1 rfl rfl (by unfold vp_in; decide) dX10_manyNow_92 (fun H locs hP hD hS => ?_)
  have hP : va_P (dC, dI) vwCl [(m0, .inr (12, [.int 0, .ref l1, .ref l2, .int 0, .int 0, .int 0, .long s0])), (l2, .inr (1, [.int 0, .ref a0, .int 0])), (q_1, .inl (cy_2, 5, .inl (fun _ => 0))), (r_3, .inr (0, [.int 0, .int (-1), .int 0, .ref l1])), (q_6, .inl (cy_7, 11, .inl (upd (upd (upd (upd (fun _ => 0) ((0 : Int32).toNatClampNeg) 0) ((1 : Int32).toNatClampNeg) 0) ((2 : Int32).toNatClampNeg) 0) ((3 : Int32).toNatClampNeg) 0))), (l1, .inr (1, [.int 0, .ref a0, .int 0]))] H := hP
  have hD : va_D A [(m0, .inr (12, [.int 0, .ref l1, .ref l2, .int 0, .int 0, .int 0, .long s0])), (l2, .inr (1, [.int 0, .ref a0, .int 0])), (q_1, .inl (cy_2, 5, .inl (fun _ => 0))), (r_3, .inr (0, [.int 0, .int (-1), .int 0, .ref l1])), (q_6, .inl (cy_7, 11, .inl (upd (upd (upd (upd (fun _ => 0) ((0 : Int32).toNatClampNeg) 0) ((1 : Int32).toNatClampNeg) 0) ((2 : Int32).toNatClampNeg) 0) ((3 : Int32).toNatClampNeg) 0))), (l1, .inr (1, [.int 0, .ref a0, .int 0]))] := hD
  refine lv_dup hx hb dX10_manyNow_93 rfl ?_
  refine lv_iconst (v := 4) hx hb dX10_manyNow_94 (by decide) ?_
  refine lv_aload_n hx hb dX10_manyNow_95 rfl (lv_at hl 2 rfl) ?_
  refine lv_iconst (v := 3) hx hb dX10_manyNow_96 (by decide) ?_
  refine va_iald hx hb hK hP 2 0 rfl rfl (by unfold vp_in; decide) dX10_manyNow_97 ?_
  refine lv_topi (fun x_16 ex_16 => ?_)
  obtain rfl : x_16 = 0 := ex_16.trans (by decide +kernel)
  refine va_iast hx hb hK hP hD hS 4 1 rfl rfl (by unfold vp_in; decide) dX10_manyNow_98 (fun H locs hP hD hS => ?_)
  have hP : va_P (dC, dI) vwCl [(m0, .inr (12, [.int 0, .ref l1, .ref l2, .int 0, .int 0, .int 0, .long s0])), (l2, .inr (1, [.int 0, .ref a0, .int 0])), (q_1, .inl (cy_2, 5, .inl (fun _ => 0))), (r_3, .inr (0, [.int 0, .int (-1), .int 0, .ref l1])), (q_6, .inl (cy_7, 11, .inl (upd (upd (upd (upd (upd (fun _ => 0) ((0 : Int32).toNatClampNeg) 0) ((1 : Int32).toNatClampNeg) 0) ((2 : Int32).toNatClampNeg) 0) ((3 : Int32).toNatClampNeg) 0) ((4 : Int32).toNatClampNeg) 0))), (l1, .inr (1, [.int 0, .ref a0, .int 0]))] H := hP
  have hD : va_D A [(m0, .inr (12, [.int 0, .ref l1, .ref l2, .int 0, .int 0, .int 0, .long s0])), (l2, .inr (1, [.int 0, .ref a0, .int 0])), (q_1, .inl (cy_2, 5, .inl (fun _ => 0))), (r_3, .inr (0, [.int 0, .int (-1), .int 0, .ref l1])), (q_6, .inl (cy_7, 11, .inl (upd (upd (upd (upd (upd (fun _ => 0) ((0 : Int32).toNatClampNeg) 0) ((1 : Int32).toNatClampNeg) 0) ((2 : Int32).toNatClampNeg) 0) ((3 : Int32).toNatClampNeg) 0) ((4 : Int32).toNatClampNeg) 0))), (l1, .inr (1, [.int 0, .ref a0, .int 0]))] := hD
  refine lv_dup hx hb dX10_manyNow_99 rfl ?_
  refine lv_iconst (v := 5) hx hb dX10_manyNow_100 (by decide) ?_
  refine lv_aload_n hx hb dX10_manyNow_101 rfl (lv_at hl 2 rfl) ?_
  refine lv_iconst (v := 4) hx hb dX10_manyNow_102 (by decide) ?_
  refine va_iald hx hb hK hP 2 0 rfl rfl (by unfold vp_in; decide) dX10_manyNow_103 ?_
  refine lv_topi (fun x_18 ex_18 => ?_)
  obtain rfl : x_18 = 0 := ex_18.trans (by decide +kernel)
  refine va_iast hx hb hK hP hD hS 4 1 rfl rfl (by unfold vp_in; decide) dX10_manyNow_104 (fun H locs hP hD hS => ?_)
  have hP : va_P (dC, dI) vwCl [(m0, .inr (12, [.int 0, .ref l1, .ref l2, .int 0, .int 0, .int 0, .long s0])), (l2, .inr (1, [.int 0, .ref a0, .int 0])), (q_1, .inl (cy_2, 5, .inl (fun _ => 0))), (r_3, .inr (0, [.int 0, .int (-1), .int 0, .ref l1])), (q_6, .inl (cy_7, 11, .inl (upd (upd (upd (upd (upd (upd (fun _ => 0) ((0 : Int32).toNatClampNeg) 0) ((1 : Int32).toNatClampNeg) 0) ((2 : Int32).toNatClampNeg) 0) ((3 : Int32).toNatClampNeg) 0) ((4 : Int32).toNatClampNeg) 0) ((5 : Int32).toNatClampNeg) 0))), (l1, .inr (1, [.int 0, .ref a0, .int 0]))] H := hP
  have hD : va_D A [(m0, .inr (12, [.int 0, .ref l1, .ref l2, .int 0, .int 0, .int 0, .long s0])), (l2, .inr (1, [.int 0, .ref a0, .int 0])), (q_1, .inl (cy_2, 5, .inl (fun _ => 0))), (r_3, .inr (0, [.int 0, .int (-1), .int 0, .ref l1])), (q_6, .inl (cy_7, 11, .inl (upd (upd (upd (upd (upd (upd (fun _ => 0) ((0 : Int32).toNatClampNeg) 0) ((1 : Int32).toNatClampNeg) 0) ((2 : Int32).toNatClampNeg) 0) ((3 : Int32).toNatClampNeg) 0) ((4 : Int32).toNatClampNeg) 0) ((5 : Int32).toNatClampNeg) 0))), (l1, .inr (1, [.int 0, .ref a0, .int 0]))] := hD
  refine lv_dup hx hb dX10_manyNow_105 rfl ?_
  refine lv_bipush (v := 6) hx hb dX10_manyNow_106 (by decide) ?_
  refine lv_aload_n hx hb dX10_manyNow_108 rfl (lv_at hl 3 rfl) ?_
  refine va_get (D := (dC, dI)) (ci := 12) (v := .ref l2) (C := RX10) (T := TX10) (N := 7) hx hb hts hiX10 hown hK hP 0 rfl rfl 2 (by decide) (hts (.fieldLink RX10 16 "HaltingaleModel" "tags" "Ljava/util/ArrayList;") (by decide +kernel)) (fun _ h9 => h9) rfl dX10_manyNow_109 ?_
  have hPc := hP.sub (ws' := [(l2, .inr (1, [.int 0, .ref a0, .int 0]))]) [1] rfl
  have hDc := hD.sub (ws' := [(l2, .inr (1, [.int 0, .ref a0, .int 0]))]) [1] (by decide) rfl
  have hKc := hK.sub (tys' := []) [] rfl
  have hFc := va_free (wc := [(l2, .inr (1, [.int 0, .ref a0, .int 0]))]) hD hS hA [1] rfl
  have hZc := ((hZ.kept hS.2.1).narrow hFc)
  refine va_calli (va_runV (As := []) (rest := [.int 6, .ref q_6, .ref q_6]) ⟨hx, hb, hml, hown, hts⟩ (c_Jx4a65c_size_8abf5 l hnt dC dI a0 l2 0 a0 0 H.size ) (cwV 0 hts (goodIn_of _ (by decide +kernel)) rfl rfl rfl (by decide +kernel) ⟨Nat.le_of_ble_eq_true rfl, Nat.le_of_ble_eq_true rfl⟩) ⟨fun a U g mk q => by obtain ⟨q0, q1, qP, qK, qD, qZ⟩ := q; exact ⟨q0, q1, qP, va_K.moved (u := U) (U := U.calling g mk a) (Vm.Alike.refl U.vm) qK, qD, qZ.call⟩, va_recv hKc hPc (ci := 1) (q0 := 0) rfl rfl, fun U hU hW => ⟨rfl, by rw [hU], by rw [hU]; exact hPc, va_K.moved hW.alike hKc, hDc.weaken (fun _ _ _ _ => trivial), by rw [hU]; exact hZc.warm hW⟩⟩ rfl rfl hl.1 rfl (lv_room (Nat.le_of_ble_eq_true rfl)) dX10_manyNow_112 ⟨Nat.le_of_ble_eq_true rfl, Nat.le_of_ble_eq_true rfl⟩) hS (fun q _ h => hFc q h) hFc (fun r_20 u t H1 locs ht hvm hw hB hz1 hk1 hS => ?_)
  obtain ⟨hP1, hK1, hD1⟩ := hB
  rw [ht] at hP1
  have hK1 := va_K.moved hvm.symm hK1
  obtain ⟨hP, hD⟩ := va_join (wr := [(m0, .inr (12, [.int 0, .ref l1, .ref l2, .int 0, .int 0, .int 0, .long s0])), (q_1, .inl (cy_2, 5, .inl (fun _ => 0))), (r_3, .inr (0, [.int 0, .int (-1), .int 0, .ref l1])), (q_6, .inl (cy_7, 11, .inl (upd (upd (upd (upd (upd (upd (fun _ => 0) ((0 : Int32).toNatClampNeg) 0) ((1 : Int32).toNatClampNeg) 0) ((2 : Int32).toNatClampNeg) 0) ((3 : Int32).toNatClampNeg) 0) ((4 : Int32).toNatClampNeg) 0) ((5 : Int32).toNatClampNeg) 0))), (l1, .inr (1, [.int 0, .ref a0, .int 0]))]) (w1 := [(l2, .inr (1, [.int 0, .ref a0, .int 0]))]) hP hD [1] [0, 2, 3, 4, 5] rfl rfl (by decide) (by decide) hk1 hFc hP1 hD1
  have hK := (hK.sub (tys' := [(cy_2, .int), (cy_7, .int)]) [0, 1] rfl).app hK1
  generalize H1 = H at hP hS ⊢
  have hP : va_P (dC, dI) vwCl [(m0, .inr (12, [.int 0, .ref l1, .ref l2, .int 0, .int 0, .int 0, .long s0])), (q_1, .inl (cy_2, 5, .inl (fun _ => 0))), (r_3, .inr (0, [.int 0, .int (-1), .int 0, .ref l1])), (q_6, .inl (cy_7, 11, .inl (upd (upd (upd (upd (upd (upd (fun _ => 0) ((0 : Int32).toNatClampNeg) 0) ((1 : Int32).toNatClampNeg) 0) ((2 : Int32).toNatClampNeg) 0) ((3 : Int32).toNatClampNeg) 0) ((4 : Int32).toNatClampNeg) 0) ((5 : Int32).toNatClampNeg) 0))), (l1, .inr (1, [.int 0, .ref a0, .int 0])), (l2, .inr (1, [.int 0, .ref a0, .int 0]))] H := hP
  have hD : va_D A [(m0, .inr (12, [.int 0, .ref l1, .ref l2, .int 0, .int 0, .int 0, .long s0])), (q_1, .inl (cy_2, 5, .inl (fun _ => 0))), (r_3, .inr (0, [.int 0, .int (-1), .int 0, .ref l1])), (q_6, .inl (cy_7, 11, .inl (upd (upd (upd (upd (upd (upd (fun _ => 0) ((0 : Int32).toNatClampNeg) 0) ((1 : Int32).toNatClampNeg) 0) ((2 : Int32).toNatClampNeg) 0) ((3 : Int32).toNatClampNeg) 0) ((4 : Int32).toNatClampNeg) 0) ((5 : Int32).toNatClampNeg) 0))), (l1, .inr (1, [.int 0, .ref a0, .int 0])), (l2, .inr (1, [.int 0, .ref a0, .int 0]))] := hD
  have hK : va_K (dC, dI) vwCl [(cy_2, .int), (cy_7, .int)] s := hK
  refine W.widen (k := 3) (n := 20) (Nat.le_of_ble_eq_true rfl) (Nat.le_of_ble_eq_true rfl) ?_
  obtain rfl : r_20 = 0 := hw
  refine va_iast hx hb hK hP hD hS 3 1 rfl rfl (by unfold vp_in; decide) dX10_manyNow_115 (fun H locs hP hD hS => ?_)
  have hP : va_P (dC, dI) vwCl [(m0, .inr (12, [.int 0, .ref l1, .ref l2, .int 0, .int 0, .int 0, .long s0])), (q_1, .inl (cy_2, 5, .inl (fun _ => 0))), (r_3, .inr (0, [.int 0, .int (-1), .int 0, .ref l1])), (q_6, .inl (cy_7, 11, .inl (upd (upd (upd (upd (upd (upd (upd (fun _ => 0) ((0 : Int32).toNatClampNeg) 0) ((1 : Int32).toNatClampNeg) 0) ((2 : Int32).toNatClampNeg) 0) ((3 : Int32).toNatClampNeg) 0) ((4 : Int32).toNatClampNeg) 0) ((5 : Int32).toNatClampNeg) 0) ((6 : Int32).toNatClampNeg) 0))), (l1, .inr (1, [.int 0, .ref a0, .int 0])), (l2, .inr (1, [.int 0, .ref a0, .int 0]))] H := hP
  have hD : va_D A [(m0, .inr (12, [.int 0, .ref l1, .ref l2, .int 0, .int 0, .int 0, .long s0])), (q_1, .inl (cy_2, 5, .inl (fun _ => 0))), (r_3, .inr (0, [.int 0, .int (-1), .int 0, .ref l1])), (q_6, .inl (cy_7, 11, .inl (upd (upd (upd (upd (upd (upd (upd (fun _ => 0) ((0 : Int32).toNatClampNeg) 0) ((1 : Int32).toNatClampNeg) 0) ((2 : Int32).toNatClampNeg) 0) ((3 : Int32).toNatClampNeg) 0) ((4 : Int32).toNatClampNeg) 0) ((5 : Int32).toNatClampNeg) 0) ((6 : Int32).toNatClampNeg) 0))), (l1, .inr (1, [.int 0, .ref a0, .int 0])), (l2, .inr (1, [.int 0, .ref a0, .int 0]))] := hD
  refine lv_dup hx hb dX10_manyNow_116 rfl ?_
  refine lv_bipush (v := 7) hx hb dX10_manyNow_117 (by decide) ?_
  refine lv_aload_n hx hb dX10_manyNow_119 rfl (lv_at hl 3 rfl) ?_
  refine va_get (D := (dC, dI)) (ci := 12) (v := .int 0) (C := RX10) (T := TX10) (N := 7) hx hb hts hiX10 hown hK hP 0 rfl rfl 3 (by decide) (hts (.fieldLink RX10 191 "HaltingaleModel" "given" "I") (by decide +kernel)) (fun _ h9 => h9) rfl dX10_manyNow_120 ?_
  refine va_iast hx hb hK hP hD hS 3 1 rfl rfl (by unfold vp_in; decide) dX10_manyNow_123 (fun H locs hP hD hS => ?_)
  have hP : va_P (dC, dI) vwCl [(m0, .inr (12, [.int 0, .ref l1, .ref l2, .int 0, .int 0, .int 0, .long s0])), (q_1, .inl (cy_2, 5, .inl (fun _ => 0))), (r_3, .inr (0, [.int 0, .int (-1), .int 0, .ref l1])), (q_6, .inl (cy_7, 11, .inl (upd (upd (upd (upd (upd (upd (upd (upd (fun _ => 0) ((0 : Int32).toNatClampNeg) 0) ((1 : Int32).toNatClampNeg) 0) ((2 : Int32).toNatClampNeg) 0) ((3 : Int32).toNatClampNeg) 0) ((4 : Int32).toNatClampNeg) 0) ((5 : Int32).toNatClampNeg) 0) ((6 : Int32).toNatClampNeg) 0) ((7 : Int32).toNatClampNeg) 0))), (l1, .inr (1, [.int 0, .ref a0, .int 0])), (l2, .inr (1, [.int 0, .ref a0, .int 0]))] H := hP
  have hD : va_D A [(m0, .inr (12, [.int 0, .ref l1, .ref l2, .int 0, .int 0, .int 0, .long s0])), (q_1, .inl (cy_2, 5, .inl (fun _ => 0))), (r_3, .inr (0, [.int 0, .int (-1), .int 0, .ref l1])), (q_6, .inl (cy_7, 11, .inl (upd (upd (upd (upd (upd (upd (upd (upd (fun _ => 0) ((0 : Int32).toNatClampNeg) 0) ((1 : Int32).toNatClampNeg) 0) ((2 : Int32).toNatClampNeg) 0) ((3 : Int32).toNatClampNeg) 0) ((4 : Int32).toNatClampNeg) 0) ((5 : Int32).toNatClampNeg) 0) ((6 : Int32).toNatClampNeg) 0) ((7 : Int32).toNatClampNeg) 0))), (l1, .inr (1, [.int 0, .ref a0, .int 0])), (l2, .inr (1, [.int 0, .ref a0, .int 0]))] := hD
  refine lv_dup hx hb dX10_manyNow_124 rfl ?_
  refine lv_bipush (v := 8) hx hb dX10_manyNow_125 (by decide) ?_
  refine lv_aload_n hx hb dX10_manyNow_127 rfl (lv_at hl 3 rfl) ?_
  refine va_get (D := (dC, dI)) (ci := 12) (v := .int 0) (C := RX10) (T := TX10) (N := 7) hx hb hts hiX10 hown hK hP 0 rfl rfl 4 (by decide) (hts (.fieldLink RX10 194 "HaltingaleModel" "taken" "I") (by decide +kernel)) (fun _ h9 => h9) rfl dX10_manyNow_128 ?_
  refine va_iast hx hb hK hP hD hS 3 1 rfl rfl (by unfold vp_in; decide) dX10_manyNow_131 (fun H locs hP hD hS => ?_)
  have hP : va_P (dC, dI) vwCl [(m0, .inr (12, [.int 0, .ref l1, .ref l2, .int 0, .int 0, .int 0, .long s0])), (q_1, .inl (cy_2, 5, .inl (fun _ => 0))), (r_3, .inr (0, [.int 0, .int (-1), .int 0, .ref l1])), (q_6, .inl (cy_7, 11, .inl (upd (upd (upd (upd (upd (upd (upd (upd (upd (fun _ => 0) ((0 : Int32).toNatClampNeg) 0) ((1 : Int32).toNatClampNeg) 0) ((2 : Int32).toNatClampNeg) 0) ((3 : Int32).toNatClampNeg) 0) ((4 : Int32).toNatClampNeg) 0) ((5 : Int32).toNatClampNeg) 0) ((6 : Int32).toNatClampNeg) 0) ((7 : Int32).toNatClampNeg) 0) ((8 : Int32).toNatClampNeg) 0))), (l1, .inr (1, [.int 0, .ref a0, .int 0])), (l2, .inr (1, [.int 0, .ref a0, .int 0]))] H := hP
  have hD : va_D A [(m0, .inr (12, [.int 0, .ref l1, .ref l2, .int 0, .int 0, .int 0, .long s0])), (q_1, .inl (cy_2, 5, .inl (fun _ => 0))), (r_3, .inr (0, [.int 0, .int (-1), .int 0, .ref l1])), (q_6, .inl (cy_7, 11, .inl (upd (upd (upd (upd (upd (upd (upd (upd (upd (fun _ => 0) ((0 : Int32).toNatClampNeg) 0) ((1 : Int32).toNatClampNeg) 0) ((2 : Int32).toNatClampNeg) 0) ((3 : Int32).toNatClampNeg) 0) ((4 : Int32).toNatClampNeg) 0) ((5 : Int32).toNatClampNeg) 0) ((6 : Int32).toNatClampNeg) 0) ((7 : Int32).toNatClampNeg) 0) ((8 : Int32).toNatClampNeg) 0))), (l1, .inr (1, [.int 0, .ref a0, .int 0])), (l2, .inr (1, [.int 0, .ref a0, .int 0]))] := hD
  refine lv_dup hx hb dX10_manyNow_132 rfl ?_
  refine lv_bipush (v := 9) hx hb dX10_manyNow_133 (by decide) ?_
  refine lv_aload_n hx hb dX10_manyNow_135 rfl (lv_at hl 3 rfl) ?_
  refine va_get (D := (dC, dI)) (ci := 12) (v := .int 0) (C := RX10) (T := TX10) (N := 7) hx hb hts hiX10 hown hK hP 0 rfl rfl 5 (by decide) (hts (.fieldLink RX10 67 "HaltingaleModel" "back" "I") (by decide +kernel)) (fun _ h9 => h9) rfl dX10_manyNow_136 ?_
  refine va_iast hx hb hK hP hD hS 3 1 rfl rfl (by unfold vp_in; decide) dX10_manyNow_139 (fun H locs hP hD hS => ?_)
  have hP : va_P (dC, dI) vwCl [(m0, .inr (12, [.int 0, .ref l1, .ref l2, .int 0, .int 0, .int 0, .long s0])), (q_1, .inl (cy_2, 5, .inl (fun _ => 0))), (r_3, .inr (0, [.int 0, .int (-1), .int 0, .ref l1])), (q_6, .inl (cy_7, 11, .inl (upd (upd (upd (upd (upd (upd (upd (upd (upd (upd (fun _ => 0) ((0 : Int32).toNatClampNeg) 0) ((1 : Int32).toNatClampNeg) 0) ((2 : Int32).toNatClampNeg) 0) ((3 : Int32).toNatClampNeg) 0) ((4 : Int32).toNatClampNeg) 0) ((5 : Int32).toNatClampNeg) 0) ((6 : Int32).toNatClampNeg) 0) ((7 : Int32).toNatClampNeg) 0) ((8 : Int32).toNatClampNeg) 0) ((9 : Int32).toNatClampNeg) 0))), (l1, .inr (1, [.int 0, .ref a0, .int 0])), (l2, .inr (1, [.int 0, .ref a0, .int 0]))] H := hP
  have hD : va_D A [(m0, .inr (12, [.int 0, .ref l1, .ref l2, .int 0, .int 0, .int 0, .long s0])), (q_1, .inl (cy_2, 5, .inl (fun _ => 0))), (r_3, .inr (0, [.int 0, .int (-1), .int 0, .ref l1])), (q_6, .inl (cy_7, 11, .inl (upd (upd (upd (upd (upd (upd (upd (upd (upd (upd (fun _ => 0) ((0 : Int32).toNatClampNeg) 0) ((1 : Int32).toNatClampNeg) 0) ((2 : Int32).toNatClampNeg) 0) ((3 : Int32).toNatClampNeg) 0) ((4 : Int32).toNatClampNeg) 0) ((5 : Int32).toNatClampNeg) 0) ((6 : Int32).toNatClampNeg) 0) ((7 : Int32).toNatClampNeg) 0) ((8 : Int32).toNatClampNeg) 0) ((9 : Int32).toNatClampNeg) 0))), (l1, .inr (1, [.int 0, .ref a0, .int 0])), (l2, .inr (1, [.int 0, .ref a0, .int 0]))] := hD
  refine lv_dup hx hb dX10_manyNow_140 rfl ?_
  refine lv_bipush (v := 10) hx hb dX10_manyNow_141 (by decide) ?_
  refine lv_iload_n hx hb dX10_manyNow_143 rfl (lv_at hl 1 rfl) ?_
  refine va_iast hx hb hK hP hD hS 3 1 rfl rfl (by unfold vp_in; decide) dX10_manyNow_144 (fun H locs hP hD hS => ?_)
  have hP : va_P (dC, dI) vwCl [(m0, .inr (12, [.int 0, .ref l1, .ref l2, .int 0, .int 0, .int 0, .long s0])), (q_1, .inl (cy_2, 5, .inl (fun _ => 0))), (r_3, .inr (0, [.int 0, .int (-1), .int 0, .ref l1])), (q_6, .inl (cy_7, 11, .inl (upd (upd (upd (upd (upd (upd (upd (upd (upd (upd (upd (fun _ => 0) ((0 : Int32).toNatClampNeg) 0) ((1 : Int32).toNatClampNeg) 0) ((2 : Int32).toNatClampNeg) 0) ((3 : Int32).toNatClampNeg) 0) ((4 : Int32).toNatClampNeg) 0) ((5 : Int32).toNatClampNeg) 0) ((6 : Int32).toNatClampNeg) 0) ((7 : Int32).toNatClampNeg) 0) ((8 : Int32).toNatClampNeg) 0) ((9 : Int32).toNatClampNeg) 0) ((10 : Int32).toNatClampNeg) 0))), (l1, .inr (1, [.int 0, .ref a0, .int 0])), (l2, .inr (1, [.int 0, .ref a0, .int 0]))] H := hP
  have hD : va_D A [(m0, .inr (12, [.int 0, .ref l1, .ref l2, .int 0, .int 0, .int 0, .long s0])), (q_1, .inl (cy_2, 5, .inl (fun _ => 0))), (r_3, .inr (0, [.int 0, .int (-1), .int 0, .ref l1])), (q_6, .inl (cy_7, 11, .inl (upd (upd (upd (upd (upd (upd (upd (upd (upd (upd (upd (fun _ => 0) ((0 : Int32).toNatClampNeg) 0) ((1 : Int32).toNatClampNeg) 0) ((2 : Int32).toNatClampNeg) 0) ((3 : Int32).toNatClampNeg) 0) ((4 : Int32).toNatClampNeg) 0) ((5 : Int32).toNatClampNeg) 0) ((6 : Int32).toNatClampNeg) 0) ((7 : Int32).toNatClampNeg) 0) ((8 : Int32).toNatClampNeg) 0) ((9 : Int32).toNatClampNeg) 0) ((10 : Int32).toNatClampNeg) 0))), (l1, .inr (1, [.int 0, .ref a0, .int 0])), (l2, .inr (1, [.int 0, .ref a0, .int 0]))] := hD
  refine lv_astore (lv' := [(4, .ref q_6), (3, .int 0), (2, .ref q_1), (0, .ref m0), (1, .int 7)]) hx hb dX10_manyNow_145 hl (by decide) rfl (fun ls hl => ?_)
  refine lv_aload hx hb dX10_manyNow_147 (lv_at hl 0 rfl) ?_
  refine lv_iload_n hx hb dX10_manyNow_149 rfl (lv_at hl 4 rfl) ?_
  refine va_iald hx hb hK hP 3 1 rfl rfl (by unfold vp_in; decide) dX10_manyNow_150 ?_
  refine lv_topi (fun x_26 ex_26 => ?_)
  obtain rfl : x_26 = 0 := ex_26.trans (by decide +kernel)
  have hP9 := hP.sub (ws' := [(m0, .inr (12, [.int 0, .ref l1, .ref l2, .int 0, .int 0, .int 0, .long s0])), (l1, .inr (1, [.int 0, .ref a0, .int 0])), (l2, .inr (1, [.int 0, .ref a0, .int 0]))]) [0, 4, 5] rfl
  have hD9 := hD.sub (ws' := [(m0, .inr (12, [.int 0, .ref l1, .ref l2, .int 0, .int 0, .int 0, .long s0])), (l1, .inr (1, [.int 0, .ref a0, .int 0])), (l2, .inr (1, [.int 0, .ref a0, .int 0]))]) [0, 4, 5] (by decide) rfl
  have hK9 := hK.sub (tys' := []) [] rfl
  refine W.widen (k := 3) (n := 20) (Nat.le_of_ble_eq_true rfl) (Nat.le_of_ble_eq_true rfl) ?_
  exact W.iret (v := 0) hx hb hr (fun t ht hW => ⟨⟨0, (), rfl, rfl, ⟨by rw [ht]; exact hP9, va_K.moved hW.alike hK9, hD9⟩⟩, hS.F ht⟩) hS.2.2 dX10_manyNow_151

def zs_c_X10_manyNow_8 : List Cond := .code yX10_manyNow cX10_manyNow 6 (some .int) :: (([.arrayClass .int, .fieldLink RX10 10 "HaltingaleModel" "machines" "Ljava/util/ArrayList;", .code yJx4a65c_iterator_32c93 cJx4a65c_iterator_32c93 1 (some (.object "java/util/Iterator")), .classLink RJx4a65c 267 RJx35411, .instantiable RJx35411 4, .initialized RJx35411, .code yJx35411_init_45d68 cJx35411_init_45d68 2 none, .fieldLink RJx35411 1 "java/util/ArrayList$Itr" "this$0" "Ljava/util/ArrayList;", .methodLink RJx35411 7 objectInit, .instanceMethod objectInit, .code objectInit ⟨#[0xb1]⟩ 1 none, .fieldLink RJx35411 13 "java/util/ArrayList$Itr" "lastRet" "I", .sameField "java/util/ArrayList" "java/util/AbstractList" "modCount" "I", .fieldLink RJx35411 17 "java/util/ArrayList" "modCount" "I", .fieldLink RJx35411 22 "java/util/ArrayList$Itr" "expectedModCount" "I", .methodLink RJx4a65c 269 yJx35411_init_45d68, .instanceMethod yJx35411_init_45d68, .methodLink RX10 158 yJx4a65c_iterator_32c93, .instanceMethod yJx4a65c_iterator_32c93, .initialized RJx4a65c, .selects RJx4a65c yJx4a65c_iterator_32c93 yJx4a65c_iterator_32c93, .code yJx35411_hasNext_aae02 cJx35411_hasNext_aae02 1 (some .boolean), .fieldLink RJx35411 25 "java/util/ArrayList$Itr" "cursor" "I", .methodLink RX10 162 ⟨"java/util/Iterator", "hasNext", "()Z"⟩, .instanceMethod yJx35411_hasNext_aae02, .selects RJx35411 ⟨"java/util/Iterator", "hasNext", "()Z"⟩ yJx35411_hasNext_aae02, .code yJx4a65c_size_8abf5 cJx4a65c_size_8abf5 1 (some .int), .fieldLink RJx4a65c 48 "java/util/ArrayList" "size" "I", .methodLink RX10 23 yJx4a65c_size_8abf5, .instanceMethod yJx4a65c_size_8abf5, .selects RJx4a65c yJx4a65c_size_8abf5 yJx4a65c_size_8abf5, .fieldLink RX10 16 "HaltingaleModel" "tags" "Ljava/util/ArrayList;", .fieldLink RX10 191 "HaltingaleModel" "given" "I", .fieldLink RX10 194 "HaltingaleModel" "taken" "I", .fieldLink RX10 67 "HaltingaleModel" "back" "I"] : List Cond) ++ wsX100 ++ wsJx354110 ++ wsJx4a65c0)
set_option maxHeartbeats 4000000 in
set_option maxRecDepth 100000 in
/-- manyNow of 8 -/
theorem c_X10_manyNow_8 (l : Launch) (hnt : l.stackTraces = false) (dC : Nat → ClassId) (dI : Nat → Nat → Nat) (a0 : Nat) (m0 : Nat) (l1 : Nat) (l2 : Nat) (s0 : Int64) (sz : Nat)  : Met l yX10_manyNow zs_c_X10_manyNow_8 ({ frames := 3, cells := 3, slots := 20, locals := 53 }) (va_Pc [.ref m0, .int 8] (fun U => U.heap.size = sz ∧ va_P (dC, dI) vwCl [(m0, .inr (12, [.int 0, .ref l1, .ref l2, .int 0, .int 0, .int 0, .long s0])), (l1, .inr (1, [.int 0, .ref a0, .int 0])), (l2, .inr (1, [.int 0, .ref a0, .int 0]))] U.heap ∧ va_K (dC, dI) vwCl [] U ∧ va_D (fun _ => True) [(m0, .inr (12, [.int 0, .ref l1, .ref l2, .int 0, .int 0, .int 0, .long s0])), (l1, .inr (1, [.int 0, .ref a0, .int 0])), (l2, .inr (1, [.int 0, .ref a0, .int 0]))] ∧ zB a0 (va_A [(m0, .inr (12, [.int 0, .ref l1, .ref l2, .int 0, .int 0, .int 0, .long s0])), (l1, .inr (1, [.int 0, .ref a0, .int 0])), (l2, .inr (1, [.int 0, .ref a0, .int 0]))] sz) U U.heap)) (va_Qi (fun (r : Int32) (_ : Unit) => r = 0) (fun _ t => va_P (dC, dI) vwCl [(m0, .inr (12, [.int 0, .ref l1, .ref l2, .int 0, .int 0, .int 0, .long s0])), (l1, .inr (1, [.int 0, .ref a0, .int 0])), (l2, .inr (1, [.int 0, .ref a0, .int 0]))] t.heap ∧ va_K (dC, dI) vwCl [] t ∧ va_D (va_A [(m0, .inr (12, [.int 0, .ref l1, .ref l2, .int 0, .int 0, .int 0, .long s0])), (l1, .inr (1, [.int 0, .ref a0, .int 0])), (l2, .inr (1, [.int 0, .ref a0, .int 0]))] sz) [(m0, .inr (12, [.int 0, .ref l1, .ref l2, .int 0, .int 0, .int 0, .long s0])), (l1, .inr (1, [.int 0, .ref a0, .int 0])), (l2, .inr (1, [.int 0, .ref a0, .int 0]))]) (va_A [(m0, .inr (12, [.int 0, .ref l1, .ref l2, .int 0, .int 0, .int 0, .long s0])), (l1, .inr (1, [.int 0, .ref a0, .int 0])), (l2, .inr (1, [.int 0, .ref a0, .int 0]))] sz)) 3 20 (va_A [(m0, .inr (12, [.int 0, .ref l1, .ref l2, .int 0, .int 0, .int 0, .long s0])), (l1, .inr (1, [.int 0, .ref a0, .int 0])), (l2, .inr (1, [.int 0, .ref a0, .int 0]))] sz) := by
  refine Met.ofW (cc := cX10_manyNow) (maxL := 6) (ret := (some .int)) (by decide) rfl ?_
  intro p e s m args below meth c s₁ B hml hv
  obtain ⟨rfl, hsz, hP, hK, hD0, hZ⟩ := hv
  have hx := B.exec
  have hb := B.bytes
  have hr := B.returns
  have hts := atoms_spec (ws := zs_c_X10_manyNow_8) B.pre
  have hown : s.vm.findClass RX10 = some m.cls := findClass_of_methodNamed B.named
  have hlocks := B.notSynchronized
  have hiX10 : ∀ w ∈ wsX100, w ∈ zs_c_X10_manyNow_8 := by decide +kernel
  subst hsz
  have hD := hD0.self (sz := s.heap.size)
  generalize hAe : va_A [(m0, .inr (12, [.int 0, .ref l1, .ref l2, .int 0, .int 0, .int 0, .long s0])), (l1, .inr (1, [.int 0, .ref a0, .int 0])), (l2, .inr (1, [.int 0, .ref a0, .int 0]))] s.heap.size = A at hD hZ ⊢
  have hA : ∀ q : Nat, s.heap.size ≤ q → A q := fun q h => by rw [← hAe]; exact Or.inr h
  have hS : va_S A s.heap s.heap [] := va_S.rf
  have hl := lv_entry ([.ref m0, .int 8]) (n := 6) (Nat.le_of_ble_eq_true rfl)
  rw [lg_entry_eq]
  generalize (lg_sl ([.ref m0, .int 8]) ++ List.replicate (6 - (lg_sl ([.ref m0, .int 8])).length) Slot.unset).toArray = ls at hl ⊢
  have hl : lv_has ls 6 [(0, .ref m0), (1, .int 8)] := hl
  refine lv_iconst (v := 5) hx hb dX10_manyNow_0 (by decide) ?_
  refine va_newa (atype := .int) (ty := .int) (N' := 5) (a0 := (5, .inl (fun _ => 0))) hx hb (hts (.arrayClass .int) (by decide +kernel)) rfl hK hP hD hS hA (fun _ => rfl) (by decide) (by decide) (Nat.le_of_ble_eq_true rfl) (Nat.le_of_ble_eq_true rfl) (Nat.le_of_ble_eq_true rfl) dX10_manyNow_1 (fun q_1 cy_2 H hK hP hD hS => ?_)
  have hK : va_K (dC, dI) vwCl [(cy_2, .int)] s := hK
  have hP : va_P (dC, dI) vwCl [(m0, .inr (12, [.int 0, .ref l1, .ref l2, .int 0, .int 0, .int 0, .long s0])), (l1, .inr (1, [.int 0, .ref a0, .int 0])), (l2, .inr (1, [.int 0, .ref a0, .int 0])), (q_1, .inl (cy_2, 5, .inl (fun _ => 0)))] H := hP
  have hD : va_D A [(m0, .inr (12, [.int 0, .ref l1, .ref l2, .int 0, .int 0, .int 0, .long s0])), (l1, .inr (1, [.int 0, .ref a0, .int 0])), (l2, .inr (1, [.int 0, .ref a0, .int 0])), (q_1, .inl (cy_2, 5, .inl (fun _ => 0)))] := hD
  refine W.widen (k := 1) (n := 5) (Nat.le_of_ble_eq_true rfl) (Nat.le_of_ble_eq_true rfl) ?_
  refine lv_astore_n (lv' := [(2, .ref q_1), (0, .ref m0), (1, .int 8)]) hx hb dX10_manyNow_3 rfl hl (by decide) rfl (fun ls hl => ?_)
  refine lv_iconst (v := 0) hx hb dX10_manyNow_4 (by decide) ?_
  refine lv_istore_n (lv' := [(3, .int 0), (2, .ref q_1), (0, .ref m0), (1, .int 8)]) hx hb dX10_manyNow_5 rfl hl (by decide) rfl (fun ls hl => ?_)
  refine lv_aload_n hx hb dX10_manyNow_6 rfl (lv_at hl 2 rfl) ?_
  refine va_get (D := (dC, dI)) (ci := 12) (v := .ref l1) (C := RX10) (T := TX10) (N := 7) hx hb hts hiX10 hown hK hP 0 rfl rfl 1 (by decide) (hts (.fieldLink RX10 10 "HaltingaleModel" "machines" "Ljava/util/ArrayList;") (by decide +kernel)) (fun _ h9 => h9) rfl dX10_manyNow_7 ?_
  have hPc := hP.sub (ws' := [(l1, .inr (1, [.int 0, .ref a0, .int 0]))]) [1] rfl
  have hDc := hD.sub (ws' := [(l1, .inr (1, [.int 0, .ref a0, .int 0]))]) [1] (by decide) rfl
  have hKc := hK.sub (tys' := []) [] rfl
  have hFc := va_free (wc := [(l1, .inr (1, [.int 0, .ref a0, .int 0]))]) hD hS hA [1] rfl
  have hZc := ((hZ.kept hS.2.1).narrow hFc)
  refine va_callr (va_runV (As := []) (rest := []) ⟨hx, hb, hml, hown, hts⟩ (c_Jx4a65c_iterator_32c93 l hnt dC dI a0 l1 H.size ) (cwV 0 hts (goodIn_of _ (by decide +kernel)) rfl rfl rfl (by decide +kernel) ⟨Nat.le_of_ble_eq_true rfl, Nat.le_of_ble_eq_true rfl⟩) ⟨fun a U g mk q => by obtain ⟨q0, q1, qP, qK, qD, qZ⟩ := q; exact ⟨q0, q1, qP, va_K.moved (u := U) (U := U.calling g mk a) (Vm.Alike.refl U.vm) qK, qD, qZ.call⟩, va_recv hKc hPc (ci := 1) (q0 := 0) rfl rfl, fun U hU hW => ⟨rfl, by rw [hU], by rw [hU]; exact hPc, va_K.moved hW.alike hKc, hDc.weaken (fun _ _ _ _ => trivial), by rw [hU]; exact hZc.warm hW⟩⟩ rfl rfl hl.1 rfl (lv_room (Nat.le_of_ble_eq_true rfl)) dX10_manyNow_10 ⟨Nat.le_of_ble_eq_true rfl, Nat.le_of_ble_eq_true rfl⟩) hS (fun q _ h => hFc q h) hFc (fun u r_3 t H1 locs ht hvm hw hB hz1 hk1 hS => ?_)
  obtain ⟨hP1, hK1, hD1⟩ := hB
  rw [ht] at hP1
  have hK1 := va_K.moved hvm.symm hK1
  obtain ⟨hP, hD⟩ := va_join (wr := [(m0, .inr (12, [.int 0, .ref l1, .ref l2, .int 0, .int 0, .int 0, .long s0])), (l2, .inr (1, [.int 0, .ref a0, .int 0])), (q_1, .inl (cy_2, 5, .inl (fun _ => 0)))]) (w1 := [(r_3, .inr (0, [.int 0, .int (-1), .int 0, .ref l1])), (l1, .inr (1, [.int 0, .ref a0, .int 0]))]) hP hD [1] [0, 2, 3] rfl rfl (by decide) (by decide) hk1 hFc hP1 hD1
  have hK := (hK.sub (tys' := [(cy_2, .int)]) [0] rfl).app hK1
  generalize H1 = H at hP hS ⊢
  have hP : va_P (dC, dI) vwCl [(m0, .inr (12, [.int 0, .ref l1, .ref l2, .int 0, .int 0, .int 0, .long s0])), (l2, .inr (1, [.int 0, .ref a0, .int 0])), (q_1, .inl (cy_2, 5, .inl (fun _ => 0))), (r_3, .inr (0, [.int 0, .int (-1), .int 0, .ref l1])), (l1, .inr (1, [.int 0, .ref a0, .int 0]))] H := hP
  have hD : va_D A [(m0, .inr (12, [.int 0, .ref l1, .ref l2, .int 0, .int 0, .int 0, .long s0])), (l2, .inr (1, [.int 0, .ref a0, .int 0])), (q_1, .inl (cy_2, 5, .inl (fun _ => 0))), (r_3, .inr (0, [.int 0, .int (-1), .int 0, .ref l1])), (l1, .inr (1, [.int 0, .ref a0, .int 0]))] := hD
  have hK : va_K (dC, dI) vwCl [(cy_2, .int)] s := hK
  refine W.widen (k := 2) (n := 9) (Nat.le_of_ble_eq_true rfl) (Nat.le_of_ble_eq_true rfl) ?_
  refine lv_astore (lv' := [(4, .ref r_3), (3, .int 0), (2, .ref q_1), (0, .ref m0), (1, .int 8)]) hx hb dX10_manyNow_13 hl (by decide) rfl (fun ls hl => ?_)
  refine lv_aload hx hb dX10_manyNow_15 (lv_at hl 0 rfl) ?_
  have hPc := hP.sub (ws' := [(r_3, .inr (0, [.int 0, .int (-1), .int 0, .ref l1])), (l1, .inr (1, [.int 0, .ref a0, .int 0]))]) [3, 4] rfl
  have hDc := hD.sub (ws' := [(r_3, .inr (0, [.int 0, .int (-1), .int 0, .ref l1])), (l1, .inr (1, [.int 0, .ref a0, .int 0]))]) [3, 4] (by decide) rfl
  have hKc := hK.sub (tys' := []) [] rfl
  have hFc := va_free (wc := [(r_3, .inr (0, [.int 0, .int (-1), .int 0, .ref l1])), (l1, .inr (1, [.int 0, .ref a0, .int 0]))]) hD hS hA [3, 4] rfl
  have hZc := ((hZ.kept hS.2.1).narrow hFc)
  refine va_callFi (va_runF (As := []) (rest := []) (zz_at hK 0 rfl) ⟨hx, hb, hml, hown, hts⟩ (c_Jx35411_hasNext_aae02 l hnt dC dI a0 r_3 l1 H.size ) (va_cwF 0 hts (goodIn_of _ (by decide +kernel)) rfl rfl rfl hZ.fwN (by decide +kernel) ⟨Nat.le_of_ble_eq_true rfl, Nat.le_of_ble_eq_true rfl⟩) ⟨fun a U g mk q => by obtain ⟨q0, q1, qP, qK, qD, qZ⟩ := q; exact ⟨q0, q1, qP, va_K.moved (u := U) (U := U.calling g mk a) (Vm.Alike.refl U.vm) qK, qD, qZ.call⟩, va_recv hKc hPc (ci := 0) (q0 := 0) rfl rfl, fun U hU hW => ⟨rfl, by rw [hU], by rw [hU]; exact hPc, va_K.moved hW.alike hKc, hDc.weaken (fun _ _ _ _ => trivial), by rw [hU]; exact hZc.warm hW⟩⟩ rfl rfl hl.1 rfl (lv_room (Nat.le_of_ble_eq_true rfl)) dX10_manyNow_17 ⟨Nat.le_of_ble_eq_true rfl, Nat.le_of_ble_eq_true rfl⟩) hS (fun q _ h => hFc q h) hFc (fun r_4 u t H1 locs ht hvm hw hB hz1 hk1 hS => ?_)
  obtain ⟨hP1, hK1, hD1⟩ := hB
  rw [ht] at hP1
  have hK1 := va_K.moved hvm.symm hK1
  obtain ⟨hP, hD⟩ := va_join (wr := [(m0, .inr (12, [.int 0, .ref l1, .ref l2, .int 0, .int 0, .int 0, .long s0])), (l2, .inr (1, [.int 0, .ref a0, .int 0])), (q_1, .inl (cy_2, 5, .inl (fun _ => 0)))]) (w1 := [(r_3, .inr (0, [.int 0, .int (-1), .int 0, .ref l1])), (l1, .inr (1, [.int 0, .ref a0, .int 0]))]) hP hD [3, 4] [0, 1, 2] rfl rfl (by decide) (by decide) hk1 hFc hP1 hD1
  have hK := (hK.sub (tys' := [(cy_2, .int)]) [0] rfl).app hK1
  generalize H1 = H at hP hS ⊢
  have hP : va_P (dC, dI) vwCl [(m0, .inr (12, [.int 0, .ref l1, .ref l2, .int 0, .int 0, .int 0, .long s0])), (l2, .inr (1, [.int 0, .ref a0, .int 0])), (q_1, .inl (cy_2, 5, .inl (fun _ => 0))), (r_3, .inr (0, [.int 0, .int (-1), .int 0, .ref l1])), (l1, .inr (1, [.int 0, .ref a0, .int 0]))] H := hP
  have hD : va_D A [(m0, .inr (12, [.int 0, .ref l1, .ref l2, .int 0, .int 0, .int 0, .long s0])), (l2, .inr (1, [.int 0, .ref a0, .int 0])), (q_1, .inl (cy_2, 5, .inl (fun _ => 0))), (r_3, .inr (0, [.int 0, .int (-1), .int 0, .ref l1])), (l1, .inr (1, [.int 0, .ref a0, .int 0]))] := hD
  have hK : va_K (dC, dI) vwCl [(cy_2, .int)] s := hK
  refine W.widen (k := 2) (n := 9) (Nat.le_of_ble_eq_true rfl) (Nat.le_of_ble_eq_true rfl) ?_
  obtain rfl : r_4 = 0 := hw
  refine lv_if_eq (tgt := 61) hx hb dX10_manyNow_22 (by decide) (fun c_5 => ?_) (fun c_5 => ?_)
  rotate_left
  · (first | exact absurd c_5 (by decide) | exact absurd (by decide) c_5)
  refine lv_bipush (v := 11) hx hb dX10_manyNow_61 (by decide) ?_
  refine va_newa (atype := .int) (ty := .int) (N' := 11) (a0 := (11, .inl (fun _ => 0))) hx hb (hts (.arrayClass .int) (by decide +kernel)) rfl hK hP hD hS hA (fun _ => rfl) (by decide) (by decide) (Nat.le_of_ble_eq_true rfl) (Nat.le_of_ble_eq_true rfl) (Nat.le_of_ble_eq_true rfl) dX10_manyNow_63 (fun q_6 cy_7 H hK hP hD hS => ?_)
  have hK : va_K (dC, dI) vwCl [(cy_2, .int), (cy_7, .int)] s := hK
  have hP : va_P (dC, dI) vwCl [(m0, .inr (12, [.int 0, .ref l1, .ref l2, .int 0, .int 0, .int 0, .long s0])), (l2, .inr (1, [.int 0, .ref a0, .int 0])), (q_1, .inl (cy_2, 5, .inl (fun _ => 0))), (r_3, .inr (0, [.int 0, .int (-1), .int 0, .ref l1])), (l1, .inr (1, [.int 0, .ref a0, .int 0])), (q_6, .inl (cy_7, 11, .inl (fun _ => 0)))] H := hP
  have hD : va_D A [(m0, .inr (12, [.int 0, .ref l1, .ref l2, .int 0, .int 0, .int 0, .long s0])), (l2, .inr (1, [.int 0, .ref a0, .int 0])), (q_1, .inl (cy_2, 5, .inl (fun _ => 0))), (r_3, .inr (0, [.int 0, .int (-1), .int 0, .ref l1])), (l1, .inr (1, [.int 0, .ref a0, .int 0])), (q_6, .inl (cy_7, 11, .inl (fun _ => 0)))] := hD
  refine W.widen (k := 3) (n := 20) (Nat.le_of_ble_eq_true rfl) (Nat.le_of_ble_eq_true rfl) ?_
  refine lv_dup hx hb dX10_manyNow_65 rfl ?_
  refine lv_iconst (v := 0) hx hb dX10_manyNow_66 (by decide) ?_
  refine lv_aload_n hx hb dX10_manyNow_67 rfl (lv_at hl 3 rfl) ?_
  refine va_get (D := (dC, dI)) (ci := 12) (v := .ref l1) (C := RX10) (T := TX10) (N := 7) hx hb hts hiX10 hown hK hP 0 rfl rfl 1 (by decide) (hts (.fieldLink RX10 10 "HaltingaleModel" "machines" "Ljava/util/ArrayList;") (by decide +kernel)) (fun _ h9 => h9) rfl dX10_manyNow_68 ?_
  have hPc := hP.sub (ws' := [(l1, .inr (1, [.int 0, .ref a0, .int 0]))]) [4] rfl
  have hDc := hD.sub (ws' := [(l1, .inr (1, [.int 0, .ref a0, .int 0]))]) [4] (by decide) rfl
  have hKc := hK.sub (tys' := []) [] rfl
  have hFc := va_free (wc := [(l1, .inr (1, [.int 0, .ref a0, .int 0]))]) hD hS hA [4] rfl
  have hZc := ((hZ.kept hS.2.1).narrow hFc)
  refine va_calli (va_runV (As := []) (rest := [.int 0, .ref q_6, .ref q_6]) ⟨hx, hb, hml, hown, hts⟩ (c_Jx4a65c_size_8abf5 l hnt dC dI a0 l1 0 a0 0 H.size ) (cwV 0 hts (goodIn_of _ (by decide +kernel)) rfl rfl rfl (by decide +kernel) ⟨Nat.le_of_ble_eq_true rfl, Nat.le_of_ble_eq_true rfl⟩) ⟨fun a U g mk q => by obtain ⟨q0, q1, qP, qK, qD, qZ⟩ := q; exact ⟨q0, q1, qP, va_K.moved (u := U) (U := U.calling g mk a) (Vm.Alike.refl U.vm) qK, qD, qZ.call⟩, va_recv hKc hPc (ci := 1) (q0 := 0) rfl rfl, fun U hU hW => ⟨rfl, by rw [hU], by rw [hU]; exact hPc, va_K.moved hW.alike hKc, hDc.weaken (fun _ _ _ _ => trivial), by rw [hU]; exact hZc.warm hW⟩⟩ rfl rfl hl.1 rfl (lv_room (Nat.le_of_ble_eq_true rfl)) dX10_manyNow_71 ⟨Nat.le_of_ble_eq_true rfl, Nat.le_of_ble_eq_true rfl⟩) hS (fun q _ h => hFc q h) hFc (fun r_8 u t H1 locs ht hvm hw hB hz1 hk1 hS => ?_)
  obtain ⟨hP1, hK1, hD1⟩ := hB
  rw [ht] at hP1
  have hK1 := va_K.moved hvm.symm hK1
  obtain ⟨hP, hD⟩ := va_join (wr := [(m0, .inr (12, [.int 0, .ref l1, .ref l2, .int 0, .int 0, .int 0, .long s0])), (l2, .inr (1, [.int 0, .ref a0, .int 0])), (q_1, .inl (cy_2, 5, .inl (fun _ => 0))), (r_3, .inr (0, [.int 0, .int (-1), .int 0, .ref l1])), (q_6, .inl (cy_7, 11, .inl (fun _ => 0)))]) (w1 := [(l1, .inr (1, [.int 0, .ref a0, .int 0]))]) hP hD [4] [0, 1, 2, 3, 5] rfl rfl (by decide) (by decide) hk1 hFc hP1 hD1
  have hK := (hK.sub (tys' := [(cy_2, .int), (cy_7, .int)]) [0, 1] rfl).app hK1
  generalize H1 = H at hP hS ⊢
  have hP : va_P (dC, dI) vwCl [(m0, .inr (12, [.int 0, .ref l1, .ref l2, .int 0, .int 0, .int 0, .long s0])), (l2, .inr (1, [.int 0, .ref a0, .int 0])), (q_1, .inl (cy_2, 5, .inl (fun _ => 0))), (r_3, .inr (0, [.int 0, .int (-1), .int 0, .ref l1])), (q_6, .inl (cy_7, 11, .inl (fun _ => 0))), (l1, .inr (1, [.int 0, .ref a0, .int 0]))] H := hP
  have hD : va_D A [(m0, .inr (12, [.int 0, .ref l1, .ref l2, .int 0, .int 0, .int 0, .long s0])), (l2, .inr (1, [.int 0, .ref a0, .int 0])), (q_1, .inl (cy_2, 5, .inl (fun _ => 0))), (r_3, .inr (0, [.int 0, .int (-1), .int 0, .ref l1])), (q_6, .inl (cy_7, 11, .inl (fun _ => 0))), (l1, .inr (1, [.int 0, .ref a0, .int 0]))] := hD
  have hK : va_K (dC, dI) vwCl [(cy_2, .int), (cy_7, .int)] s := hK
  refine W.widen (k := 3) (n := 20) (Nat.le_of_ble_eq_true rfl) (Nat.le_of_ble_eq_true rfl) ?_
  obtain rfl : r_8 = 0 := hw
  refine va_iast hx hb hK hP hD hS 4 1 rfl rfl (by unfold vp_in; decide) dX10_manyNow_74 (fun H locs hP hD hS => ?_)
  have hP : va_P (dC, dI) vwCl [(m0, .inr (12, [.int 0, .ref l1, .ref l2, .int 0, .int 0, .int 0, .long s0])), (l2, .inr (1, [.int 0, .ref a0, .int 0])), (q_1, .inl (cy_2, 5, .inl (fun _ => 0))), (r_3, .inr (0, [.int 0, .int (-1), .int 0, .ref l1])), (q_6, .inl (cy_7, 11, .inl (upd (fun _ => 0) ((0 : Int32).toNatClampNeg) 0))), (l1, .inr (1, [.int 0, .ref a0, .int 0]))] H := hP
  have hD : va_D A [(m0, .inr (12, [.int 0, .ref l1, .ref l2, .int 0, .int 0, .int 0, .long s0])), (l2, .inr (1, [.int 0, .ref a0, .int 0])), (q_1, .inl (cy_2, 5, .inl (fun _ => 0))), (r_3, .inr (0, [.int 0, .int (-1), .int 0, .ref l1])), (q_6, .inl (cy_7, 11, .inl (upd (fun _ => 0) ((0 : Int32).toNatClampNeg) 0))), (l1, .inr (1, [.int 0, .ref a0, .int 0]))] := hD
  refine lv_dup hx hb dX10_manyNow_75 rfl ?_
  refine lv_iconst (v := 1) hx hb dX10_manyNow_76 (by decide) ?_
  refine lv_aload_n hx hb dX10_manyNow_77 rfl (lv_at hl 2 rfl) ?_
  refine lv_iconst (v := 0) hx hb dX10_manyNow_78 (by decide) ?_
  refine va_iald hx hb hK hP 2 0 rfl rfl (by unfold vp_in; decide) dX10_manyNow_79 ?_
  refine lv_topi (fun x_10 ex_10 => ?_)
  obtain rfl : x_10 = 0 := ex_10.trans (by decide +kernel)
  refine va_iast hx hb hK hP hD hS 4 1 rfl rfl (by unfold vp_in; decide) dX10_manyNow_80 (fun H locs hP hD hS => ?_)
  have hP : va_P (dC, dI) vwCl [(m0, .inr (12, [.int 0, .ref l1, .ref l2, .int 0, .int 0, .int 0, .long s0])), (l2, .inr (1, [.int 0, .ref a0, .int 0])), (q_1, .inl (cy_2, 5, .inl (fun _ => 0))), (r_3, .inr (0, [.int 0, .int (-1), .int 0, .ref l1])), (q_6, .inl (cy_7, 11, .inl (upd (upd (fun _ => 0) ((0 : Int32).toNatClampNeg) 0) ((1 : Int32).toNatClampNeg) 0))), (l1, .inr (1, [.int 0, .ref a0, .int 0]))] H := hP
  have hD : va_D A [(m0, .inr (12, [.int 0, .ref l1, .ref l2, .int 0, .int 0, .int 0, .long s0])), (l2, .inr (1, [.int 0, .ref a0, .int 0])), (q_1, .inl (cy_2, 5, .inl (fun _ => 0))), (r_3, .inr (0, [.int 0, .int (-1), .int 0, .ref l1])), (q_6, .inl (cy_7, 11, .inl (upd (upd (fun _ => 0) ((0 : Int32).toNatClampNeg) 0) ((1 : Int32).toNatClampNeg) 0))), (l1, .inr (1, [.int 0, .ref a0, .int 0]))] := hD
  refine lv_dup hx hb dX10_manyNow_81 rfl ?_
  refine lv_iconst (v := 2) hx hb dX10_manyNow_82 (by decide) ?_
  refine lv_aload_n hx hb dX10_manyNow_83 rfl (lv_at hl 2 rfl) ?_
  refine lv_iconst (v := 1) hx hb dX10_manyNow_84 (by decide) ?_
  refine va_iald hx hb hK hP 2 0 rfl rfl (by unfold vp_in; decide) dX10_manyNow_85 ?_
  refine lv_topi (fun x_12 ex_12 => ?_)
  obtain rfl : x_12 = 0 := ex_12.trans (by decide +kernel)
  refine va_iast hx hb hK hP hD hS 4 1 rfl rfl (by unfold vp_in; decide) dX10_manyNow_86 (fun H locs hP hD hS => ?_)
  have hP : va_P (dC, dI) vwCl [(m0, .inr (12, [.int 0, .ref l1, .ref l2, .int 0, .int 0, .int 0, .long s0])), (l2, .inr (1, [.int 0, .ref a0, .int 0])), (q_1, .inl (cy_2, 5, .inl (fun _ => 0))), (r_3, .inr (0, [.int 0, .int (-1), .int 0, .ref l1])), (q_6, .inl (cy_7, 11, .inl (upd (upd (upd (fun _ => 0) ((0 : Int32).toNatClampNeg) 0) ((1 : Int32).toNatClampNeg) 0) ((2 : Int32).toNatClampNeg) 0))), (l1, .inr (1, [.int 0, .ref a0, .int 0]))] H := hP
  have hD : va_D A [(m0, .inr (12, [.int 0, .ref l1, .ref l2, .int 0, .int 0, .int 0, .long s0])), (l2, .inr (1, [.int 0, .ref a0, .int 0])), (q_1, .inl (cy_2, 5, .inl (fun _ => 0))), (r_3, .inr (0, [.int 0, .int (-1), .int 0, .ref l1])), (q_6, .inl (cy_7, 11, .inl (upd (upd (upd (fun _ => 0) ((0 : Int32).toNatClampNeg) 0) ((1 : Int32).toNatClampNeg) 0) ((2 : Int32).toNatClampNeg) 0))), (l1, .inr (1, [.int 0, .ref a0, .int 0]))] := hD
  refine lv_dup hx hb dX10_manyNow_87 rfl ?_
  refine lv_iconst (v := 3) hx hb dX10_manyNow_88 (by decide) ?_
  refine lv_aload_n hx hb dX10_manyNow_89 rfl (lv_at hl 2 rfl) ?_
  refine lv_iconst (v := 2) hx hb dX10_manyNow_90 (by decide) ?_
  refine va_iald hx hb hK hP 2 0 rfl rfl (by unfold vp_in; decide) dX10_manyNow_91 ?_
  refine lv_topi (fun x_14 ex_14 => ?_)
  obtain rfl : x_14 = 0 := ex_14.trans (by decide +kernel)
  refine va_iast hx hb hK hP hD hS 4 1 rfl rfl (by unfold vp_in; decide) dX10_manyNow_92 (fun H locs hP hD hS => ?_)
  have hP : va_P (dC, dI) vwCl [(m0, .inr (12, [.int 0, .ref l1, .ref l2, .int 0, .int 0, .int 0, .long s0])), (l2, .inr (1, [.int 0, .ref a0, .int 0])), (q_1, .inl (cy_2, 5, .inl (fun _ => 0))), (r_3, .inr (0, [.int 0, .int (-1), .int 0, .ref l1])), (q_6, .inl (cy_7, 11, .inl (upd (upd (upd (upd (fun _ => 0) ((0 : Int32).toNatClampNeg) 0) ((1 : Int32).toNatClampNeg) 0) ((2 : Int32).toNatClampNeg) 0) ((3 : Int32).toNatClampNeg) 0))), (l1, .inr (1, [.int 0, .ref a0, .int 0]))] H := hP
  have hD : va_D A [(m0, .inr (12, [.int 0, .ref l1, .ref l2, .int 0, .int 0, .int 0, .long s0])), (l2, .inr (1, [.int 0, .ref a0, .int 0])), (q_1, .inl (cy_2, 5, .inl (fun _ => 0))), (r_3, .inr (0, [.int 0, .int (-1), .int 0, .ref l1])), (q_6, .inl (cy_7, 11, .inl (upd (upd (upd (upd (fun _ => 0) ((0 : Int32).toNatClampNeg) 0) ((1 : Int32).toNatClampNeg) 0) ((2 : Int32).toNatClampNeg) 0) ((3 : Int32).toNatClampNeg) 0))), (l1, .inr (1, [.int 0, .ref a0, .int 0]))] := hD
  refine lv_dup hx hb dX10_manyNow_93 rfl ?_
  refine lv_iconst (v := 4) hx hb dX10_manyNow_94 (by decide) ?_
  refine lv_aload_n hx hb dX10_manyNow_95 rfl (lv_at hl 2 rfl) ?_
  refine lv_iconst (v := 3) hx hb dX10_manyNow_96 (by decide) ?_
  refine va_iald hx hb hK hP 2 0 rfl rfl (by unfold vp_in; decide) dX10_manyNow_97 ?_
  refine lv_topi (fun x_16 ex_16 => ?_)
  obtain rfl : x_16 = 0 := ex_16.trans (by decide +kernel)
  refine va_iast hx hb hK hP hD hS 4 1 rfl rfl (by unfold vp_in; decide) dX10_manyNow_98 (fun H locs hP hD hS => ?_)
  have hP : va_P (dC, dI) vwCl [(m0, .inr (12, [.int 0, .ref l1, .ref l2, .int 0, .int 0, .int 0, .long s0])), (l2, .inr (1, [.int 0, .ref a0, .int 0])), (q_1, .inl (cy_2, 5, .inl (fun _ => 0))), (r_3, .inr (0, [.int 0, .int (-1), .int 0, .ref l1])), (q_6, .inl (cy_7, 11, .inl (upd (upd (upd (upd (upd (fun _ => 0) ((0 : Int32).toNatClampNeg) 0) ((1 : Int32).toNatClampNeg) 0) ((2 : Int32).toNatClampNeg) 0) ((3 : Int32).toNatClampNeg) 0) ((4 : Int32).toNatClampNeg) 0))), (l1, .inr (1, [.int 0, .ref a0, .int 0]))] H := hP
  have hD : va_D A [(m0, .inr (12, [.int 0, .ref l1, .ref l2, .int 0, .int 0, .int 0, .long s0])), (l2, .inr (1, [.int 0, .ref a0, .int 0])), (q_1, .inl (cy_2, 5, .inl (fun _ => 0))), (r_3, .inr (0, [.int 0, .int (-1), .int 0, .ref l1])), (q_6, .inl (cy_7, 11, .inl (upd (upd (upd (upd (upd (fun _ => 0) ((0 : Int32).toNatClampNeg) 0) ((1 : Int32).toNatClampNeg) 0) ((2 : Int32).toNatClampNeg) 0) ((3 : Int32).toNatClampNeg) 0) ((4 : Int32).toNatClampNeg) 0))), (l1, .inr (1, [.int 0, .ref a0, .int 0]))] := hD
  refine lv_dup hx hb dX10_manyNow_99 rfl ?_
  refine lv_iconst (v := 5) hx hb dX10_manyNow_100 (by decide) ?_
  refine lv_aload_n hx hb dX10_manyNow_101 rfl (lv_at hl 2 rfl) ?_
  refine lv_iconst (v := 4) hx hb dX10_manyNow_102 (by decide) ?_
  refine va_iald hx hb hK hP 2 0 rfl rfl (by unfold vp_in; decide) dX10_manyNow_103 ?_
  refine lv_topi (fun x_18 ex_18 => ?_)
  obtain rfl : x_18 = 0 := ex_18.trans (by decide +kernel)
  refine va_iast hx hb hK hP hD hS 4 1 rfl rfl (by unfold vp_in; decide) dX10_manyNow_104 (fun H locs hP hD hS => ?_)
  have hP : va_P (dC, dI) vwCl [(m0, .inr (12, [.int 0, .ref l1, .ref l2, .int 0, .int 0, .int 0, .long s0])), (l2, .inr (1, [.int 0, .ref a0, .int 0])), (q_1, .inl (cy_2, 5, .inl (fun _ => 0))), (r_3, .inr (0, [.int 0, .int (-1), .int 0, .ref l1])), (q_6, .inl (cy_7, 11, .inl (upd (upd (upd (upd (upd (upd (fun _ => 0) ((0 : Int32).toNatClampNeg) 0) ((1 : Int32).toNatClampNeg) 0) ((2 : Int32).toNatClampNeg) 0) ((3 : Int32).toNatClampNeg) 0) ((4 : Int32).toNatClampNeg) 0) ((5 : Int32).toNatClampNeg) 0))), (l1, .inr (1, [.int 0, .ref a0, .int 0]))] H := hP
  have hD : va_D A [(m0, .inr (12, [.int 0, .ref l1, .ref l2, .int 0, .int 0, .int 0, .long s0])), (l2, .inr (1, [.int 0, .ref a0, .int 0])), (q_1, .inl (cy_2, 5, .inl (fun _ => 0))), (r_3, .inr (0, [.int 0, .int (-1), .int 0, .ref l1])), (q_6, .inl (cy_7, 11, .inl (upd (upd (upd (upd (upd (upd (fun _ => 0) ((0 : Int32).toNatClampNeg) 0) ((1 : Int32).toNatClampNeg) 0) ((2 : Int32).toNatClampNeg) 0) ((3 : Int32).toNatClampNeg) 0) ((4 : Int32).toNatClampNeg) 0) ((5 : Int32).toNatClampNeg) 0))), (l1, .inr (1, [.int 0, .ref a0, .int 0]))] := hD
  refine lv_dup hx hb dX10_manyNow_105 rfl ?_
  refine lv_bipush (v := 6) hx hb dX10_manyNow_106 (by decide) ?_
  refine lv_aload_n hx hb dX10_manyNow_108 rfl (lv_at hl 3 rfl) ?_
  refine va_get (D := (dC, dI)) (ci := 12) (v := .ref l2) (C := RX10) (T := TX10) (N := 7) hx hb hts hiX10 hown hK hP 0 rfl rfl 2 (by decide) (hts (.fieldLink RX10 16 "HaltingaleModel" "tags" "Ljava/util/ArrayList;") (by decide +kernel)) (fun _ h9 => h9) rfl dX10_manyNow_109 ?_
  have hPc := hP.sub (ws' := [(l2, .inr (1, [.int 0, .ref a0, .int 0]))]) [1] rfl
  have hDc := hD.sub (ws' := [(l2, .inr (1, [.int 0, .ref a0, .int 0]))]) [1] (by decide) rfl
  have hKc := hK.sub (tys' := []) [] rfl
  have hFc := va_free (wc := [(l2, .inr (1, [.int 0, .ref a0, .int 0]))]) hD hS hA [1] rfl
  have hZc := ((hZ.kept hS.2.1).narrow hFc)
  refine va_calli (va_runV (As := []) (rest := [.int 6, .ref q_6, .ref q_6]) ⟨hx, hb, hml, hown, hts⟩ (c_Jx4a65c_size_8abf5 l hnt dC dI a0 l2 0 a0 0 H.size ) (cwV 0 hts (goodIn_of _ (by decide +kernel)) rfl rfl rfl (by decide +kernel) ⟨Nat.le_of_ble_eq_true rfl, Nat.le_of_ble_eq_true rfl⟩) ⟨fun a U g mk q => by obtain ⟨q0, q1, qP, qK, qD, qZ⟩ := q; exact ⟨q0, q1, qP, va_K.moved (u := U) (U := U.calling g mk a) (Vm.Alike.refl U.vm) qK, qD, qZ.call⟩, va_recv hKc hPc (ci := 1) (q0 := 0) rfl rfl, fun U hU hW => ⟨rfl, by rw [hU], by rw [hU]; exact hPc, va_K.moved hW.alike hKc, hDc.weaken (fun _ _ _ _ => trivial), by rw [hU]; exact hZc.warm hW⟩⟩ rfl rfl hl.1 rfl (lv_room (Nat.le_of_ble_eq_true rfl)) dX10_manyNow_112 ⟨Nat.le_of_ble_eq_true rfl, Nat.le_of_ble_eq_true rfl⟩) hS (fun q _ h => hFc q h) hFc (fun r_20 u t H1 locs ht hvm hw hB hz1 hk1 hS => ?_)
  obtain ⟨hP1, hK1, hD1⟩ := hB
  rw [ht] at hP1
  have hK1 := va_K.moved hvm.symm hK1
  obtain ⟨hP, hD⟩ := va_join (wr := [(m0, .inr (12, [.int 0, .ref l1, .ref l2, .int 0, .int 0, .int 0, .long s0])), (q_1, .inl (cy_2, 5, .inl (fun _ => 0))), (r_3, .inr (0, [.int 0, .int (-1), .int 0, .ref l1])), (q_6, .inl (cy_7, 11, .inl (upd (upd (upd (upd (upd (upd (fun _ => 0) ((0 : Int32).toNatClampNeg) 0) ((1 : Int32).toNatClampNeg) 0) ((2 : Int32).toNatClampNeg) 0) ((3 : Int32).toNatClampNeg) 0) ((4 : Int32).toNatClampNeg) 0) ((5 : Int32).toNatClampNeg) 0))), (l1, .inr (1, [.int 0, .ref a0, .int 0]))]) (w1 := [(l2, .inr (1, [.int 0, .ref a0, .int 0]))]) hP hD [1] [0, 2, 3, 4, 5] rfl rfl (by decide) (by decide) hk1 hFc hP1 hD1
  have hK := (hK.sub (tys' := [(cy_2, .int), (cy_7, .int)]) [0, 1] rfl).app hK1
  generalize H1 = H at hP hS ⊢
  have hP : va_P (dC, dI) vwCl [(m0, .inr (12, [.int 0, .ref l1, .ref l2, .int 0, .int 0, .int 0, .long s0])), (q_1, .inl (cy_2, 5, .inl (fun _ => 0))), (r_3, .inr (0, [.int 0, .int (-1), .int 0, .ref l1])), (q_6, .inl (cy_7, 11, .inl (upd (upd (upd (upd (upd (upd (fun _ => 0) ((0 : Int32).toNatClampNeg) 0) ((1 : Int32).toNatClampNeg) 0) ((2 : Int32).toNatClampNeg) 0) ((3 : Int32).toNatClampNeg) 0) ((4 : Int32).toNatClampNeg) 0) ((5 : Int32).toNatClampNeg) 0))), (l1, .inr (1, [.int 0, .ref a0, .int 0])), (l2, .inr (1, [.int 0, .ref a0, .int 0]))] H := hP
  have hD : va_D A [(m0, .inr (12, [.int 0, .ref l1, .ref l2, .int 0, .int 0, .int 0, .long s0])), (q_1, .inl (cy_2, 5, .inl (fun _ => 0))), (r_3, .inr (0, [.int 0, .int (-1), .int 0, .ref l1])), (q_6, .inl (cy_7, 11, .inl (upd (upd (upd (upd (upd (upd (fun _ => 0) ((0 : Int32).toNatClampNeg) 0) ((1 : Int32).toNatClampNeg) 0) ((2 : Int32).toNatClampNeg) 0) ((3 : Int32).toNatClampNeg) 0) ((4 : Int32).toNatClampNeg) 0) ((5 : Int32).toNatClampNeg) 0))), (l1, .inr (1, [.int 0, .ref a0, .int 0])), (l2, .inr (1, [.int 0, .ref a0, .int 0]))] := hD
  have hK : va_K (dC, dI) vwCl [(cy_2, .int), (cy_7, .int)] s := hK
  refine W.widen (k := 3) (n := 20) (Nat.le_of_ble_eq_true rfl) (Nat.le_of_ble_eq_true rfl) ?_
  obtain rfl : r_20 = 0 := hw
  refine va_iast hx hb hK hP hD hS 3 1 rfl rfl (by unfold vp_in; decide) dX10_manyNow_115 (fun H locs hP hD hS => ?_)
  have hP : va_P (dC, dI) vwCl [(m0, .inr (12, [.int 0, .ref l1, .ref l2, .int 0, .int 0, .int 0, .long s0])), (q_1, .inl (cy_2, 5, .inl (fun _ => 0))), (r_3, .inr (0, [.int 0, .int (-1), .int 0, .ref l1])), (q_6, .inl (cy_7, 11, .inl (upd (upd (upd (upd (upd (upd (upd (fun _ => 0) ((0 : Int32).toNatClampNeg) 0) ((1 : Int32).toNatClampNeg) 0) ((2 : Int32).toNatClampNeg) 0) ((3 : Int32).toNatClampNeg) 0) ((4 : Int32).toNatClampNeg) 0) ((5 : Int32).toNatClampNeg) 0) ((6 : Int32).toNatClampNeg) 0))), (l1, .inr (1, [.int 0, .ref a0, .int 0])), (l2, .inr (1, [.int 0, .ref a0, .int 0]))] H := hP
  have hD : va_D A [(m0, .inr (12, [.int 0, .ref l1, .ref l2, .int 0, .int 0, .int 0, .long s0])), (q_1, .inl (cy_2, 5, .inl (fun _ => 0))), (r_3, .inr (0, [.int 0, .int (-1), .int 0, .ref l1])), (q_6, .inl (cy_7, 11, .inl (upd (upd (upd (upd (upd (upd (upd (fun _ => 0) ((0 : Int32).toNatClampNeg) 0) ((1 : Int32).toNatClampNeg) 0) ((2 : Int32).toNatClampNeg) 0) ((3 : Int32).toNatClampNeg) 0) ((4 : Int32).toNatClampNeg) 0) ((5 : Int32).toNatClampNeg) 0) ((6 : Int32).toNatClampNeg) 0))), (l1, .inr (1, [.int 0, .ref a0, .int 0])), (l2, .inr (1, [.int 0, .ref a0, .int 0]))] := hD
  refine lv_dup hx hb dX10_manyNow_116 rfl ?_
  refine lv_bipush (v := 7) hx hb dX10_manyNow_117 (by decide) ?_
  refine lv_aload_n hx hb dX10_manyNow_119 rfl (lv_at hl 3 rfl) ?_
  refine va_get (D := (dC, dI)) (ci := 12) (v := .int 0) (C := RX10) (T := TX10) (N := 7) hx hb hts hiX10 hown hK hP 0 rfl rfl 3 (by decide) (hts (.fieldLink RX10 191 "HaltingaleModel" "given" "I") (by decide +kernel)) (fun _ h9 => h9) rfl dX10_manyNow_120 ?_
  refine va_iast hx hb hK hP hD hS 3 1 rfl rfl (by unfold vp_in; decide) dX10_manyNow_123 (fun H locs hP hD hS => ?_)
  have hP : va_P (dC, dI) vwCl [(m0, .inr (12, [.int 0, .ref l1, .ref l2, .int 0, .int 0, .int 0, .long s0])), (q_1, .inl (cy_2, 5, .inl (fun _ => 0))), (r_3, .inr (0, [.int 0, .int (-1), .int 0, .ref l1])), (q_6, .inl (cy_7, 11, .inl (upd (upd (upd (upd (upd (upd (upd (upd (fun _ => 0) ((0 : Int32).toNatClampNeg) 0) ((1 : Int32).toNatClampNeg) 0) ((2 : Int32).toNatClampNeg) 0) ((3 : Int32).toNatClampNeg) 0) ((4 : Int32).toNatClampNeg) 0) ((5 : Int32).toNatClampNeg) 0) ((6 : Int32).toNatClampNeg) 0) ((7 : Int32).toNatClampNeg) 0))), (l1, .inr (1, [.int 0, .ref a0, .int 0])), (l2, .inr (1, [.int 0, .ref a0, .int 0]))] H := hP
  have hD : va_D A [(m0, .inr (12, [.int 0, .ref l1, .ref l2, .int 0, .int 0, .int 0, .long s0])), (q_1, .inl (cy_2, 5, .inl (fun _ => 0))), (r_3, .inr (0, [.int 0, .int (-1), .int 0, .ref l1])), (q_6, .inl (cy_7, 11, .inl (upd (upd (upd (upd (upd (upd (upd (upd (fun _ => 0) ((0 : Int32).toNatClampNeg) 0) ((1 : Int32).toNatClampNeg) 0) ((2 : Int32).toNatClampNeg) 0) ((3 : Int32).toNatClampNeg) 0) ((4 : Int32).toNatClampNeg) 0) ((5 : Int32).toNatClampNeg) 0) ((6 : Int32).toNatClampNeg) 0) ((7 : Int32).toNatClampNeg) 0))), (l1, .inr (1, [.int 0, .ref a0, .int 0])), (l2, .inr (1, [.int 0, .ref a0, .int 0]))] := hD
  refine lv_dup hx hb dX10_manyNow_124 rfl ?_
  refine lv_bipush (v := 8) hx hb dX10_manyNow_125 (by decide) ?_
  refine lv_aload_n hx hb dX10_manyNow_127 rfl (lv_at hl 3 rfl) ?_
  refine va_get (D := (dC, dI)) (ci := 12) (v := .int 0) (C := RX10) (T := TX10) (N := 7) hx hb hts hiX10 hown hK hP 0 rfl rfl 4 (by decide) (hts (.fieldLink RX10 194 "HaltingaleModel" "taken" "I") (by decide +kernel)) (fun _ h9 => h9) rfl dX10_manyNow_128 ?_
  refine va_iast hx hb hK hP hD hS 3 1 rfl rfl (by unfold vp_in; decide) dX10_manyNow_131 (fun H locs hP hD hS => ?_)
  have hP : va_P (dC, dI) vwCl [(m0, .inr (12, [.int 0, .ref l1, .ref l2, .int 0, .int 0, .int 0, .long s0])), (q_1, .inl (cy_2, 5, .inl (fun _ => 0))), (r_3, .inr (0, [.int 0, .int (-1), .int 0, .ref l1])), (q_6, .inl (cy_7, 11, .inl (upd (upd (upd (upd (upd (upd (upd (upd (upd (fun _ => 0) ((0 : Int32).toNatClampNeg) 0) ((1 : Int32).toNatClampNeg) 0) ((2 : Int32).toNatClampNeg) 0) ((3 : Int32).toNatClampNeg) 0) ((4 : Int32).toNatClampNeg) 0) ((5 : Int32).toNatClampNeg) 0) ((6 : Int32).toNatClampNeg) 0) ((7 : Int32).toNatClampNeg) 0) ((8 : Int32).toNatClampNeg) 0))), (l1, .inr (1, [.int 0, .ref a0, .int 0])), (l2, .inr (1, [.int 0, .ref a0, .int 0]))] H := hP
  have hD : va_D A [(m0, .inr (12, [.int 0, .ref l1, .ref l2, .int 0, .int 0, .int 0, .long s0])), (q_1, .inl (cy_2, 5, .inl (fun _ => 0))), (r_3, .inr (0, [.int 0, .int (-1), .int 0, .ref l1])), (q_6, .inl (cy_7, 11, .inl (upd (upd (upd (upd (upd (upd (upd (upd (upd (fun _ => 0) ((0 : Int32).toNatClampNeg) 0) ((1 : Int32).toNatClampNeg) 0) ((2 : Int32).toNatClampNeg) 0) ((3 : Int32).toNatClampNeg) 0) ((4 : Int32).toNatClampNeg) 0) ((5 : Int32).toNatClampNeg) 0) ((6 : Int32).toNatClampNeg) 0) ((7 : Int32).toNatClampNeg) 0) ((8 : Int32).toNatClampNeg) 0))), (l1, .inr (1, [.int 0, .ref a0, .int 0])), (l2, .inr (1, [.int 0, .ref a0, .int 0]))] := hD
  refine lv_dup hx hb dX10_manyNow_132 rfl ?_
  refine lv_bipush (v := 9) hx hb dX10_manyNow_133 (by decide) ?_
  refine lv_aload_n hx hb dX10_manyNow_135 rfl (lv_at hl 3 rfl) ?_
  refine va_get (D := (dC, dI)) (ci := 12) (v := .int 0) (C := RX10) (T := TX10) (N := 7) hx hb hts hiX10 hown hK hP 0 rfl rfl 5 (by decide) (hts (.fieldLink RX10 67 "HaltingaleModel" "back" "I") (by decide +kernel)) (fun _ h9 => h9) rfl dX10_manyNow_136 ?_
  refine va_iast hx hb hK hP hD hS 3 1 rfl rfl (by unfold vp_in; decide) dX10_manyNow_139 (fun H locs hP hD hS => ?_)
  have hP : va_P (dC, dI) vwCl [(m0, .inr (12, [.int 0, .ref l1, .ref l2, .int 0, .int 0, .int 0, .long s0])), (q_1, .inl (cy_2, 5, .inl (fun _ => 0))), (r_3, .inr (0, [.int 0, .int (-1), .int 0, .ref l1])), (q_6, .inl (cy_7, 11, .inl (upd (upd (upd (upd (upd (upd (upd (upd (upd (upd (fun _ => 0) ((0 : Int32).toNatClampNeg) 0) ((1 : Int32).toNatClampNeg) 0) ((2 : Int32).toNatClampNeg) 0) ((3 : Int32).toNatClampNeg) 0) ((4 : Int32).toNatClampNeg) 0) ((5 : Int32).toNatClampNeg) 0) ((6 : Int32).toNatClampNeg) 0) ((7 : Int32).toNatClampNeg) 0) ((8 : Int32).toNatClampNeg) 0) ((9 : Int32).toNatClampNeg) 0))), (l1, .inr (1, [.int 0, .ref a0, .int 0])), (l2, .inr (1, [.int 0, .ref a0, .int 0]))] H := hP
  have hD : va_D A [(m0, .inr (12, [.int 0, .ref l1, .ref l2, .int 0, .int 0, .int 0, .long s0])), (q_1, .inl (cy_2, 5, .inl (fun _ => 0))), (r_3, .inr (0, [.int 0, .int (-1), .int 0, .ref l1])), (q_6, .inl (cy_7, 11, .inl (upd (upd (upd (upd (upd (upd (upd (upd (upd (upd (fun _ => 0) ((0 : Int32).toNatClampNeg) 0) ((1 : Int32).toNatClampNeg) 0) ((2 : Int32).toNatClampNeg) 0) ((3 : Int32).toNatClampNeg) 0) ((4 : Int32).toNatClampNeg) 0) ((5 : Int32).toNatClampNeg) 0) ((6 : Int32).toNatClampNeg) 0) ((7 : Int32).toNatClampNeg) 0) ((8 : Int32).toNatClampNeg) 0) ((9 : Int32).toNatClampNeg) 0))), (l1, .inr (1, [.int 0, .ref a0, .int 0])), (l2, .inr (1, [.int 0, .ref a0, .int 0]))] := hD
  refine lv_dup hx hb dX10_manyNow_140 rfl ?_
  refine lv_bipush (v := 10) hx hb dX10_manyNow_141 (by decide) ?_
  refine lv_iload_n hx hb dX10_manyNow_143 rfl (lv_at hl 1 rfl) ?_
  refine va_iast hx hb hK hP hD hS 3 1 rfl rfl (by unfold vp_in; decide) dX10_manyNow_144 (fun H locs hP hD hS => ?_)
  have hP : va_P (dC, dI) vwCl [(m0, .inr (12, [.int 0, .ref l1, .ref l2, .int 0, .int 0, .int 0, .long s0])), (q_1, .inl (cy_2, 5, .inl (fun _ => 0))), (r_3, .inr (0, [.int 0, .int (-1), .int 0, .ref l1])), (q_6, .inl (cy_7, 11, .inl (upd (upd (upd (upd (upd (upd (upd (upd (upd (upd (upd (fun _ => 0) ((0 : Int32).toNatClampNeg) 0) ((1 : Int32).toNatClampNeg) 0) ((2 : Int32).toNatClampNeg) 0) ((3 : Int32).toNatClampNeg) 0) ((4 : Int32).toNatClampNeg) 0) ((5 : Int32).toNatClampNeg) 0) ((6 : Int32).toNatClampNeg) 0) ((7 : Int32).toNatClampNeg) 0) ((8 : Int32).toNatClampNeg) 0) ((9 : Int32).toNatClampNeg) 0) ((10 : Int32).toNatClampNeg) 0))), (l1, .inr (1, [.int 0, .ref a0, .int 0])), (l2, .inr (1, [.int 0, .ref a0, .int 0]))] H := hP
  have hD : va_D A [(m0, .inr (12, [.int 0, .ref l1, .ref l2, .int 0, .int 0, .int 0, .long s0])), (q_1, .inl (cy_2, 5, .inl (fun _ => 0))), (r_3, .inr (0, [.int 0, .int (-1), .int 0, .ref l1])), (q_6, .inl (cy_7, 11, .inl (upd (upd (upd (upd (upd (upd (upd (upd (upd (upd (upd (fun _ => 0) ((0 : Int32).toNatClampNeg) 0) ((1 : Int32).toNatClampNeg) 0) ((2 : Int32).toNatClampNeg) 0) ((3 : Int32).toNatClampNeg) 0) ((4 : Int32).toNatClampNeg) 0) ((5 : Int32).toNatClampNeg) 0) ((6 : Int32).toNatClampNeg) 0) ((7 : Int32).toNatClampNeg) 0) ((8 : Int32).toNatClampNeg) 0) ((9 : Int32).toNatClampNeg) 0) ((10 : Int32).toNatClampNeg) 0))), (l1, .inr (1, [.int 0, .ref a0, .int 0])), (l2, .inr (1, [.int 0, .ref a0, .int 0]))] := hD
  refine lv_astore (lv' := [(4, .ref q_6), (3, .int 0), (2, .ref q_1), (0, .ref m0), (1, .int 8)]) hx hb dX10_manyNow_145 hl (by decide) rfl (fun ls hl => ?_)
  refine lv_aload hx hb dX10_manyNow_147 (lv_at hl 0 rfl) ?_
  refine lv_iload_n hx hb dX10_manyNow_149 rfl (lv_at hl 4 rfl) ?_
  refine va_iald hx hb hK hP 3 1 rfl rfl (by unfold vp_in; decide) dX10_manyNow_150 ?_
  refine lv_topi (fun x_26 ex_26 => ?_)
  obtain rfl : x_26 = 0 := ex_26.trans (by decide +kernel)
  have hP9 := hP.sub (ws' := [(m0, .inr (12, [.int 0, .ref l1, .ref l2, .int 0, .int 0, .int 0, .long s0])), (l1, .inr (1, [.int 0, .ref a0, .int 0])), (l2, .inr (1, [.int 0, .ref a0, .int 0]))]) [0, 4, 5] rfl
  have hD9 := hD.sub (ws' := [(m0, .inr (12, [.int 0, .ref l1, .ref l2, .int 0, .int 0, .int 0, .long s0])), (l1, .inr (1, [.int 0, .ref a0, .int 0])), (l2, .inr (1, [.int 0, .ref a0, .int 0]))]) [0, 4, 5] (by decide) rfl
  have hK9 := hK.sub (tys' := []) [] rfl
  refine W.widen (k := 3) (n := 20) (Nat.le_of_ble_eq_true rfl) (Nat.le_of_ble_eq_true rfl) ?_
  exact W.iret (v := 0) hx hb hr (fun t ht hW => ⟨⟨0, (), rfl, rfl, ⟨by rw [ht]; exact hP9, va_K.moved hW.alike hK9, hD9⟩⟩, hS.F ht⟩) hS.2.2 dX10_manyNow_151

def zs_c_X10_manyNow_9 : List Cond := .code yX10_manyNow cX10_manyNow 6 (some .int) :: (([.arrayClass .int, .fieldLink RX10 10 "HaltingaleModel" "machines" "Ljava/util/ArrayList;", .code yJx4a65c_iterator_32c93 cJx4a65c_iterator_32c93 1 (some (.object "java/util/Iterator")), .classLink RJx4a65c 267 RJx35411, .instantiable RJx35411 4, .initialized RJx35411, .code yJx35411_init_45d68 cJx35411_init_45d68 2 none, .fieldLink RJx35411 1 "java/util/ArrayList$Itr" "this$0" "Ljava/util/ArrayList;", .methodLink RJx35411 7 objectInit, .instanceMethod objectInit, .code objectInit ⟨#[0xb1]⟩ 1 none, .fieldLink RJx35411 13 "java/util/ArrayList$Itr" "lastRet" "I", .sameField "java/util/ArrayList" "java/util/AbstractList" "modCount" "I", .fieldLink RJx35411 17 "java/util/ArrayList" "modCount" "I", .fieldLink RJx35411 22 "java/util/ArrayList$Itr" "expectedModCount" "I", .methodLink RJx4a65c 269 yJx35411_init_45d68, .instanceMethod yJx35411_init_45d68, .methodLink RX10 158 yJx4a65c_iterator_32c93, .instanceMethod yJx4a65c_iterator_32c93, .initialized RJx4a65c, .selects RJx4a65c yJx4a65c_iterator_32c93 yJx4a65c_iterator_32c93, .code yJx35411_hasNext_aae02 cJx35411_hasNext_aae02 1 (some .boolean), .fieldLink RJx35411 25 "java/util/ArrayList$Itr" "cursor" "I", .methodLink RX10 162 ⟨"java/util/Iterator", "hasNext", "()Z"⟩, .instanceMethod yJx35411_hasNext_aae02, .selects RJx35411 ⟨"java/util/Iterator", "hasNext", "()Z"⟩ yJx35411_hasNext_aae02, .code yJx4a65c_size_8abf5 cJx4a65c_size_8abf5 1 (some .int), .fieldLink RJx4a65c 48 "java/util/ArrayList" "size" "I", .methodLink RX10 23 yJx4a65c_size_8abf5, .instanceMethod yJx4a65c_size_8abf5, .selects RJx4a65c yJx4a65c_size_8abf5 yJx4a65c_size_8abf5, .fieldLink RX10 16 "HaltingaleModel" "tags" "Ljava/util/ArrayList;", .fieldLink RX10 191 "HaltingaleModel" "given" "I", .fieldLink RX10 194 "HaltingaleModel" "taken" "I", .fieldLink RX10 67 "HaltingaleModel" "back" "I"] : List Cond) ++ wsX100 ++ wsJx354110 ++ wsJx4a65c0)
set_option maxHeartbeats 4000000 in
set_option maxRecDepth 100000 in
/-- manyNow of 9 -/
theorem c_X10_manyNow_9 (l : Launch) (hnt : l.stackTraces = false) (dC : Nat → ClassId) (dI : Nat → Nat → Nat) (a0 : Nat) (m0 : Nat) (l1 : Nat) (l2 : Nat) (s0 : Int64) (sz : Nat)  : Met l yX10_manyNow zs_c_X10_manyNow_9 ({ frames := 3, cells := 3, slots := 20, locals := 53 }) (va_Pc [.ref m0, .int 9] (fun U => U.heap.size = sz ∧ va_P (dC, dI) vwCl [(m0, .inr (12, [.int 0, .ref l1, .ref l2, .int 0, .int 0, .int 0, .long s0])), (l1, .inr (1, [.int 0, .ref a0, .int 0])), (l2, .inr (1, [.int 0, .ref a0, .int 0]))] U.heap ∧ va_K (dC, dI) vwCl [] U ∧ va_D (fun _ => True) [(m0, .inr (12, [.int 0, .ref l1, .ref l2, .int 0, .int 0, .int 0, .long s0])), (l1, .inr (1, [.int 0, .ref a0, .int 0])), (l2, .inr (1, [.int 0, .ref a0, .int 0]))] ∧ zB a0 (va_A [(m0, .inr (12, [.int 0, .ref l1, .ref l2, .int 0, .int 0, .int 0, .long s0])), (l1, .inr (1, [.int 0, .ref a0, .int 0])), (l2, .inr (1, [.int 0, .ref a0, .int 0]))] sz) U U.heap)) (va_Qi (fun (r : Int32) (_ : Unit) => r = 0) (fun _ t => va_P (dC, dI) vwCl [(m0, .inr (12, [.int 0, .ref l1, .ref l2, .int 0, .int 0, .int 0, .long s0])), (l1, .inr (1, [.int 0, .ref a0, .int 0])), (l2, .inr (1, [.int 0, .ref a0, .int 0]))] t.heap ∧ va_K (dC, dI) vwCl [] t ∧ va_D (va_A [(m0, .inr (12, [.int 0, .ref l1, .ref l2, .int 0, .int 0, .int 0, .long s0])), (l1, .inr (1, [.int 0, .ref a0, .int 0])), (l2, .inr (1, [.int 0, .ref a0, .int 0]))] sz) [(m0, .inr (12, [.int 0, .ref l1, .ref l2, .int 0, .int 0, .int 0, .long s0])), (l1, .inr (1, [.int 0, .ref a0, .int 0])), (l2, .inr (1, [.int 0, .ref a0, .int 0]))]) (va_A [(m0, .inr (12, [.int 0, .ref l1, .ref l2, .int 0, .int 0, .int 0, .long s0])), (l1, .inr (1, [.int 0, .ref a0, .int 0])), (l2, .inr (1, [.int 0, .ref a0, .int 0]))] sz)) 3 20 (va_A [(m0, .inr (12, [.int 0, .ref l1, .ref l2, .int 0, .int 0, .int 0, .long s0])), (l1, .inr (1, [.int 0, .ref a0, .int 0])), (l2, .inr (1, [.int 0, .ref a0, .int 0]))] sz) := by
  refine Met.ofW (cc := cX10_manyNow) (maxL := 6) (ret := (some .int)) (by decide) rfl ?_
  intro p e s m args below meth c s₁ B hml hv
  obtain ⟨rfl, hsz, hP, hK, hD0, hZ⟩ := hv
  have hx := B.exec
  have hb := B.bytes
  have hr := B.returns
  have hts := atoms_spec (ws := zs_c_X10_manyNow_9) B.pre
  have hown : s.vm.findClass RX10 = some m.cls := findClass_of_methodNamed B.named
  have hlocks := B.notSynchronized
  have hiX10 : ∀ w ∈ wsX100, w ∈ zs_c_X10_manyNow_9 := by decide +kernel
  subst hsz
  have hD := hD0.self (sz := s.heap.size)
  generalize hAe : va_A [(m0, .inr (12, [.int 0, .ref l1, .ref l2, .int 0, .int 0, .int 0, .long s0])), (l1, .inr (1, [.int 0, .ref a0, .int 0])), (l2, .inr (1, [.int 0, .ref a0, .int 0]))] s.heap.size = A at hD hZ ⊢
  have hA : ∀ q : Nat, s.heap.size ≤ q → A q := fun q h => by rw [← hAe]; exact Or.inr h
  have hS : va_S A s.heap s.heap [] := va_S.rf
  have hl := lv_entry ([.ref m0, .int 9]) (n := 6) (Nat.le_of_ble_eq_true rfl)
  rw [lg_entry_eq]
  generalize (lg_sl ([.ref m0, .int 9]) ++ List.replicate (6 - (lg_sl ([.ref m0, .int 9])).length) Slot.unset).toArray = ls at hl ⊢
  have hl : lv_has ls 6 [(0, .ref m0), (1, .int 9)] := hl
  refine lv_iconst (v := 5) hx hb dX10_manyNow_0 (by decide) ?_
  refine va_newa (atype := .int) (ty := .int) (N' := 5) (a0 := (5, .inl (fun _ => 0))) hx hb (hts (.arrayClass .int) (by decide +kernel)) rfl hK hP hD hS hA (fun _ => rfl) (by decide) (by decide) (Nat.le_of_ble_eq_true rfl) (Nat.le_of_ble_eq_true rfl) (Nat.le_of_ble_eq_true rfl) dX10_manyNow_1 (fun q_1 cy_2 H hK hP hD hS => ?_)
  have hK : va_K (dC, dI) vwCl [(cy_2, .int)] s := hK
  have hP : va_P (dC, dI) vwCl [(m0, .inr (12, [.int 0, .ref l1, .ref l2, .int 0, .int 0, .int 0, .long s0])), (l1, .inr (1, [.int 0, .ref a0, .int 0])), (l2, .inr (1, [.int 0, .ref a0, .int 0])), (q_1, .inl (cy_2, 5, .inl (fun _ => 0)))] H := hP
  have hD : va_D A [(m0, .inr (12, [.int 0, .ref l1, .ref l2, .int 0, .int 0, .int 0, .long s0])), (l1, .inr (1, [.int 0, .ref a0, .int 0])), (l2, .inr (1, [.int 0, .ref a0, .int 0])), (q_1, .inl (cy_2, 5, .inl (fun _ => 0)))] := hD
  refine W.widen (k := 1) (n := 5) (Nat.le_of_ble_eq_true rfl) (Nat.le_of_ble_eq_true rfl) ?_
  refine lv_astore_n (lv' := [(2, .ref q_1), (0, .ref m0), (1, .int 9)]) hx hb dX10_manyNow_3 rfl hl (by decide) rfl (fun ls hl => ?_)
  refine lv_iconst (v := 0) hx hb dX10_manyNow_4 (by decide) ?_
  refine lv_istore_n (lv' := [(3, .int 0), (2, .ref q_1), (0, .ref m0), (1, .int 9)]) hx hb dX10_manyNow_5 rfl hl (by decide) rfl (fun ls hl => ?_)
  refine lv_aload_n hx hb dX10_manyNow_6 rfl (lv_at hl 2 rfl) ?_
  refine va_get (D := (dC, dI)) (ci := 12) (v := .ref l1) (C := RX10) (T := TX10) (N := 7) hx hb hts hiX10 hown hK hP 0 rfl rfl 1 (by decide) (hts (.fieldLink RX10 10 "HaltingaleModel" "machines" "Ljava/util/ArrayList;") (by decide +kernel)) (fun _ h9 => h9) rfl dX10_manyNow_7 ?_
  have hPc := hP.sub (ws' := [(l1, .inr (1, [.int 0, .ref a0, .int 0]))]) [1] rfl
  have hDc := hD.sub (ws' := [(l1, .inr (1, [.int 0, .ref a0, .int 0]))]) [1] (by decide) rfl
  have hKc := hK.sub (tys' := []) [] rfl
  have hFc := va_free (wc := [(l1, .inr (1, [.int 0, .ref a0, .int 0]))]) hD hS hA [1] rfl
  have hZc := ((hZ.kept hS.2.1).narrow hFc)
  refine va_callr (va_runV (As := []) (rest := []) ⟨hx, hb, hml, hown, hts⟩ (c_Jx4a65c_iterator_32c93 l hnt dC dI a0 l1 H.size ) (cwV 0 hts (goodIn_of _ (by decide +kernel)) rfl rfl rfl (by decide +kernel) ⟨Nat.le_of_ble_eq_true rfl, Nat.le_of_ble_eq_true rfl⟩) ⟨fun a U g mk q => by obtain ⟨q0, q1, qP, qK, qD, qZ⟩ := q; exact ⟨q0, q1, qP, va_K.moved (u := U) (U := U.calling g mk a) (Vm.Alike.refl U.vm) qK, qD, qZ.call⟩, va_recv hKc hPc (ci := 1) (q0 := 0) rfl rfl, fun U hU hW => ⟨rfl, by rw [hU], by rw [hU]; exact hPc, va_K.moved hW.alike hKc, hDc.weaken (fun _ _ _ _ => trivial), by rw [hU]; exact hZc.warm hW⟩⟩ rfl rfl hl.1 rfl (lv_room (Nat.le_of_ble_eq_true rfl)) dX10_manyNow_10 ⟨Nat.le_of_ble_eq_true rfl, Nat.le_of_ble_eq_true rfl⟩) hS (fun q _ h => hFc q h) hFc (fun u r_3 t H1 locs ht hvm hw hB hz1 hk1 hS => ?_)
  obtain ⟨hP1, hK1, hD1⟩ := hB
  rw [ht] at hP1
  have hK1 := va_K.moved hvm.symm hK1
  obtain ⟨hP, hD⟩ := va_join (wr := [(m0, .inr (12, [.int 0, .ref l1, .ref l2, .int 0, .int 0, .int 0, .long s0])), (l2, .inr (1, [.int 0, .ref a0, .int 0])), (q_1, .inl (cy_2, 5, .inl (fun _ => 0)))]) (w1 := [(r_3, .inr (0, [.int 0, .int (-1), .int 0, .ref l1])), (l1, .inr (1, [.int 0, .ref a0, .int 0]))]) hP hD [1] [0, 2, 3] rfl rfl (by decide) (by decide) hk1 hFc hP1 hD1
  have hK := (hK.sub (tys' := [(cy_2, .int)]) [0] rfl).app hK1
  generalize H1 = H at hP hS ⊢
  have hP : va_P (dC, dI) vwCl [(m0, .inr (12, [.int 0, .ref l1, .ref l2, .int 0, .int 0, .int 0, .long s0])), (l2, .inr (1, [.int 0, .ref a0, .int 0])), (q_1, .inl (cy_2, 5, .inl (fun _ => 0))), (r_3, .inr (0, [.int 0, .int (-1), .int 0, .ref l1])), (l1, .inr (1, [.int 0, .ref a0, .int 0]))] H := hP
  have hD : va_D A [(m0, .inr (12, [.int 0, .ref l1, .ref l2, .int 0, .int 0, .int 0, .long s0])), (l2, .inr (1, [.int 0, .ref a0, .int 0])), (q_1, .inl (cy_2, 5, .inl (fun _ => 0))), (r_3, .inr (0, [.int 0, .int (-1), .int 0, .ref l1])), (l1, .inr (1, [.int 0, .ref a0, .int 0]))] := hD
  have hK : va_K (dC, dI) vwCl [(cy_2, .int)] s := hK
  refine W.widen (k := 2) (n := 9) (Nat.le_of_ble_eq_true rfl) (Nat.le_of_ble_eq_true rfl) ?_
  refine lv_astore (lv' := [(4, .ref r_3), (3, .int 0), (2, .ref q_1), (0, .ref m0), (1, .int 9)]) hx hb dX10_manyNow_13 hl (by decide) rfl (fun ls hl => ?_)
  refine lv_aload hx hb dX10_manyNow_15 (lv_at hl 0 rfl) ?_
  have hPc := hP.sub (ws' := [(r_3, .inr (0, [.int 0, .int (-1), .int 0, .ref l1])), (l1, .inr (1, [.int 0, .ref a0, .int 0]))]) [3, 4] rfl
  have hDc := hD.sub (ws' := [(r_3, .inr (0, [.int 0, .int (-1), .int 0, .ref l1])), (l1, .inr (1, [.int 0, .ref a0, .int 0]))]) [3, 4] (by decide) rfl
  have hKc := hK.sub (tys' := []) [] rfl
  have hFc := va_free (wc := [(r_3, .inr (0, [.int 0, .int (-1), .int 0, .ref l1])), (l1, .inr (1, [.int 0, .ref a0, .int 0]))]) hD hS hA [3, 4] rfl
  have hZc := ((hZ.kept hS.2.1).narrow hFc)
  refine va_callFi (va_runF (As := []) (rest := []) (zz_at hK 0 rfl) ⟨hx, hb, hml, hown, hts⟩ (c_Jx35411_hasNext_aae02 l hnt dC dI a0 r_3 l1 H.size ) (va_cwF 0 hts (goodIn_of _ (by decide +kernel)) rfl rfl rfl hZ.fwN (by decide +kernel) ⟨Nat.le_of_ble_eq_true rfl, Nat.le_of_ble_eq_true rfl⟩) ⟨fun a U g mk q => by obtain ⟨q0, q1, qP, qK, qD, qZ⟩ := q; exact ⟨q0, q1, qP, va_K.moved (u := U) (U := U.calling g mk a) (Vm.Alike.refl U.vm) qK, qD, qZ.call⟩, va_recv hKc hPc (ci := 0) (q0 := 0) rfl rfl, fun U hU hW => ⟨rfl, by rw [hU], by rw [hU]; exact hPc, va_K.moved hW.alike hKc, hDc.weaken (fun _ _ _ _ => trivial), by rw [hU]; exact hZc.warm hW⟩⟩ rfl rfl hl.1 rfl (lv_room (Nat.le_of_ble_eq_true rfl)) dX10_manyNow_17 ⟨Nat.le_of_ble_eq_true rfl, Nat.le_of_ble_eq_true rfl⟩) hS (fun q _ h => hFc q h) hFc (fun r_4 u t H1 locs ht hvm hw hB hz1 hk1 hS => ?_)
  obtain ⟨hP1, hK1, hD1⟩ := hB
  rw [ht] at hP1
  have hK1 := va_K.moved hvm.symm hK1
  obtain ⟨hP, hD⟩ := va_join (wr := [(m0, .inr (12, [.int 0, .ref l1, .ref l2, .int 0, .int 0, .int 0, .long s0])), (l2, .inr (1, [.int 0, .ref a0, .int 0])), (q_1, .inl (cy_2, 5, .inl (fun _ => 0)))]) (w1 := [(r_3, .inr (0, [.int 0, .int (-1), .int 0, .ref l1])), (l1, .inr (1, [.int 0, .ref a0, .int 0]))]) hP hD [3, 4] [0, 1, 2] rfl rfl (by decide) (by decide) hk1 hFc hP1 hD1
  have hK := (hK.sub (tys' := [(cy_2, .int)]) [0] rfl).app hK1
  generalize H1 = H at hP hS ⊢
  have hP : va_P (dC, dI) vwCl [(m0, .inr (12, [.int 0, .ref l1, .ref l2, .int 0, .int 0, .int 0, .long s0])), (l2, .inr (1, [.int 0, .ref a0, .int 0])), (q_1, .inl (cy_2, 5, .inl (fun _ => 0))), (r_3, .inr (0, [.int 0, .int (-1), .int 0, .ref l1])), (l1, .inr (1, [.int 0, .ref a0, .int 0]))] H := hP
  have hD : va_D A [(m0, .inr (12, [.int 0, .ref l1, .ref l2, .int 0, .int 0, .int 0, .long s0])), (l2, .inr (1, [.int 0, .ref a0, .int 0])), (q_1, .inl (cy_2, 5, .inl (fun _ => 0))), (r_3, .inr (0, [.int 0, .int (-1), .int 0, .ref l1])), (l1, .inr (1, [.int 0, .ref a0, .int 0]))] := hD
  have hK : va_K (dC, dI) vwCl [(cy_2, .int)] s := hK
  refine W.widen (k := 2) (n := 9) (Nat.le_of_ble_eq_true rfl) (Nat.le_of_ble_eq_true rfl) ?_
  obtain rfl : r_4 = 0 := hw
  refine lv_if_eq (tgt := 61) hx hb dX10_manyNow_22 (by decide) (fun c_5 => ?_) (fun c_5 => ?_)
  rotate_left
  · (first | exact absurd c_5 (by decide) | exact absurd (by decide) c_5)
  refine lv_bipush (v := 11) hx hb dX10_manyNow_61 (by decide) ?_
  refine va_newa (atype := .int) (ty := .int) (N' := 11) (a0 := (11, .inl (fun _ => 0))) hx hb (hts (.arrayClass .int) (by decide +kernel)) rfl hK hP hD hS hA (fun _ => rfl) (by decide) (by decide) (Nat.le_of_ble_eq_true rfl) (Nat.le_of_ble_eq_true rfl) (Nat.le_of_ble_eq_true rfl) dX10_manyNow_63 (fun q_6 cy_7 H hK hP hD hS => ?_)
  have hK : va_K (dC, dI) vwCl [(cy_2, .int), (cy_7, .int)] s := hK
  have hP : va_P (dC, dI) vwCl [(m0, .inr (12, [.int 0, .ref l1, .ref l2, .int 0, .int 0, .int 0, .long s0])), (l2, .inr (1, [.int 0, .ref a0, .int 0])), (q_1, .inl (cy_2, 5, .inl (fun _ => 0))), (r_3, .inr (0, [.int 0, .int (-1), .int 0, .ref l1])), (l1, .inr (1, [.int 0, .ref a0, .int 0])), (q_6, .inl (cy_7, 11, .inl (fun _ => 0)))] H := hP
  have hD : va_D A [(m0, .inr (12, [.int 0, .ref l1, .ref l2, .int 0, .int 0, .int 0, .long s0])), (l2, .inr (1, [.int 0, .ref a0, .int 0])), (q_1, .inl (cy_2, 5, .inl (fun _ => 0))), (r_3, .inr (0, [.int 0, .int (-1), .int 0, .ref l1])), (l1, .inr (1, [.int 0, .ref a0, .int 0])), (q_6, .inl (cy_7, 11, .inl (fun _ => 0)))] := hD
  refine W.widen (k := 3) (n := 20) (Nat.le_of_ble_eq_true rfl) (Nat.le_of_ble_eq_true rfl) ?_
  refine lv_dup hx hb dX10_manyNow_65 rfl ?_
  refine lv_iconst (v := 0) hx hb dX10_manyNow_66 (by decide) ?_
  refine lv_aload_n hx hb dX10_manyNow_67 rfl (lv_at hl 3 rfl) ?_
  refine va_get (D := (dC, dI)) (ci := 12) (v := .ref l1) (C := RX10) (T := TX10) (N := 7) hx hb hts hiX10 hown hK hP 0 rfl rfl 1 (by decide) (hts (.fieldLink RX10 10 "HaltingaleModel" "machines" "Ljava/util/ArrayList;") (by decide +kernel)) (fun _ h9 => h9) rfl dX10_manyNow_68 ?_
  have hPc := hP.sub (ws' := [(l1, .inr (1, [.int 0, .ref a0, .int 0]))]) [4] rfl
  have hDc := hD.sub (ws' := [(l1, .inr (1, [.int 0, .ref a0, .int 0]))]) [4] (by decide) rfl
  have hKc := hK.sub (tys' := []) [] rfl
  have hFc := va_free (wc := [(l1, .inr (1, [.int 0, .ref a0, .int 0]))]) hD hS hA [4] rfl
  have hZc := ((hZ.kept hS.2.1).narrow hFc)
  refine va_calli (va_runV (As := []) (rest := [.int 0, .ref q_6, .ref q_6]) ⟨hx, hb, hml, hown, hts⟩ (c_Jx4a65c_size_8abf5 l hnt dC dI a0 l1 0 a0 0 H.size ) (cwV 0 hts (goodIn_of _ (by decide +kernel)) rfl rfl rfl (by decide +kernel) ⟨Nat.le_of_ble_eq_true rfl, Nat.le_of_ble_eq_true rfl⟩) ⟨fun a U g mk q => by obtain ⟨q0, q1, qP, qK, qD, qZ⟩ := q; exact ⟨q0, q1, qP, va_K.moved (u := U) (U := U.calling g mk a) (Vm.Alike.refl U.vm) qK, qD, qZ.call⟩, va_recv hKc hPc (ci := 1) (q0 := 0) rfl rfl, fun U hU hW => ⟨rfl, by rw [hU], by rw [hU]; exact hPc, va_K.moved hW.alike hKc, hDc.weaken (fun _ _ _ _ => trivial), by rw [hU]; exact hZc.warm hW⟩⟩ rfl rfl hl.1 rfl (lv_room (Nat.le_of_ble_eq_true rfl)) dX10_manyNow_71 ⟨Nat.le_of_ble_eq_true rfl, Nat.le_of_ble_eq_true rfl⟩) hS (fun q _ h => hFc q h) hFc (fun r_8 u t H1 locs ht hvm hw hB hz1 hk1 hS => ?_)
  obtain ⟨hP1, hK1, hD1⟩ := hB
  rw [ht] at hP1
  have hK1 := va_K.moved hvm.symm hK1
  obtain ⟨hP, hD⟩ := va_join (wr := [(m0, .inr (12, [.int 0, .ref l1, .ref l2, .int 0, .int 0, .int 0, .long s0])), (l2, .inr (1, [.int 0, .ref a0, .int 0])), (q_1, .inl (cy_2, 5, .inl (fun _ => 0))), (r_3, .inr (0, [.int 0, .int (-1), .int 0, .ref l1])), (q_6, .inl (cy_7, 11, .inl (fun _ => 0)))]) (w1 := [(l1, .inr (1, [.int 0, .ref a0, .int 0]))]) hP hD [4] [0, 1, 2, 3, 5] rfl rfl (by decide) (by decide) hk1 hFc hP1 hD1
  have hK := (hK.sub (tys' := [(cy_2, .int), (cy_7, .int)]) [0, 1] rfl).app hK1
  generalize H1 = H at hP hS ⊢
  have hP : va_P (dC, dI) vwCl [(m0, .inr (12, [.int 0, .ref l1, .ref l2, .int 0, .int 0, .int 0, .long s0])), (l2, .inr (1, [.int 0, .ref a0, .int 0])), (q_1, .inl (cy_2, 5, .inl (fun _ => 0))), (r_3, .inr (0, [.int 0, .int (-1), .int 0, .ref l1])), (q_6, .inl (cy_7, 11, .inl (fun _ => 0))), (l1, .inr (1, [.int 0, .ref a0, .int 0]))] H := hP
  have hD : va_D A [(m0, .inr (12, [.int 0, .ref l1, .ref l2, .int 0, .int 0, .int 0, .long s0])), (l2, .inr (1, [.int 0, .ref a0, .int 0])), (q_1, .inl (cy_2, 5, .inl (fun _ => 0))), (r_3, .inr (0, [.int 0, .int (-1), .int 0, .ref l1])), (q_6, .inl (cy_7, 11, .inl (fun _ => 0))), (l1, .inr (1, [.int 0, .ref a0, .int 0]))] := hD
  have hK : va_K (dC, dI) vwCl [(cy_2, .int), (cy_7, .int)] s := hK
  refine W.widen (k := 3) (n := 20) (Nat.le_of_ble_eq_true rfl) (Nat.le_of_ble_eq_true rfl) ?_
  obtain rfl : r_8 = 0 := hw
  refine va_iast hx hb hK hP hD hS 4 1 rfl rfl (by unfold vp_in; decide) dX10_manyNow_74 (fun H locs hP hD hS => ?_)
  have hP : va_P (dC, dI) vwCl [(m0, .inr (12, [.int 0, .ref l1, .ref l2, .int 0, .int 0, .int 0, .long s0])), (l2, .inr (1, [.int 0, .ref a0, .int 0])), (q_1, .inl (cy_2, 5, .inl (fun _ => 0))), (r_3, .inr (0, [.int 0, .int (-1), .int 0, .ref l1])), (q_6, .inl (cy_7, 11, .inl (upd (fun _ => 0) ((0 : Int32).toNatClampNeg) 0))), (l1, .inr (1, [.int 0, .ref a0, .int 0]))] H := hP
  have hD : va_D A [(m0, .inr (12, [.int 0, .ref l1, .ref l2, .int 0, .int 0, .int 0, .long s0])), (l2, .inr (1, [.int 0, .ref a0, .int 0])), (q_1, .inl (cy_2, 5, .inl (fun _ => 0))), (r_3, .inr (0, [.int 0, .int (-1), .int 0, .ref l1])), (q_6, .inl (cy_7, 11, .inl (upd (fun _ => 0) ((0 : Int32).toNatClampNeg) 0))), (l1, .inr (1, [.int 0, .ref a0, .int 0]))] := hD
  refine lv_dup hx hb dX10_manyNow_75 rfl ?_
  refine lv_iconst (v := 1) hx hb dX10_manyNow_76 (by decide) ?_
  refine lv_aload_n hx hb dX10_manyNow_77 rfl (lv_at hl 2 rfl) ?_
  refine lv_iconst (v := 0) hx hb dX10_manyNow_78 (by decide) ?_
  refine va_iald hx hb hK hP 2 0 rfl rfl (by unfold vp_in; decide) dX10_manyNow_79 ?_
  refine lv_topi (fun x_10 ex_10 => ?_)
  obtain rfl : x_10 = 0 := ex_10.trans (by decide +kernel)
  refine va_iast hx hb hK hP hD hS 4 1 rfl rfl (by unfold vp_in; decide) dX10_manyNow_80 (fun H locs hP hD hS => ?_)
  have hP : va_P (dC, dI) vwCl [(m0, .inr (12, [.int 0, .ref l1, .ref l2, .int 0, .int 0, .int 0, .long s0])), (l2, .inr (1, [.int 0, .ref a0, .int 0])), (q_1, .inl (cy_2, 5, .inl (fun _ => 0))), (r_3, .inr (0, [.int 0, .int (-1), .int 0, .ref l1])), (q_6, .inl (cy_7, 11, .inl (upd (upd (fun _ => 0) ((0 : Int32).toNatClampNeg) 0) ((1 : Int32).toNatClampNeg) 0))), (l1, .inr (1, [.int 0, .ref a0, .int 0]))] H := hP
  have hD : va_D A [(m0, .inr (12, [.int 0, .ref l1, .ref l2, .int 0, .int 0, .int 0, .long s0])), (l2, .inr (1, [.int 0, .ref a0, .int 0])), (q_1, .inl (cy_2, 5, .inl (fun _ => 0))), (r_3, .inr (0, [.int 0, .int (-1), .int 0, .ref l1])), (q_6, .inl (cy_7, 11, .inl (upd (upd (fun _ => 0) ((0 : Int32).toNatClampNeg) 0) ((1 : Int32).toNatClampNeg) 0))), (l1, .inr (1, [.int 0, .ref a0, .int 0]))] := hD
  refine lv_dup hx hb dX10_manyNow_81 rfl ?_
  refine lv_iconst (v := 2) hx hb dX10_manyNow_82 (by decide) ?_
  refine lv_aload_n hx hb dX10_manyNow_83 rfl (lv_at hl 2 rfl) ?_
  refine lv_iconst (v := 1) hx hb dX10_manyNow_84 (by decide) ?_
  refine va_iald hx hb hK hP 2 0 rfl rfl (by unfold vp_in; decide) dX10_manyNow_85 ?_
  refine lv_topi (fun x_12 ex_12 => ?_)
  obtain rfl : x_12 = 0 := ex_12.trans (by decide +kernel)
  refine va_iast hx hb hK hP hD hS 4 1 rfl rfl (by unfold vp_in; decide) dX10_manyNow_86 (fun H locs hP hD hS => ?_)
  have hP : va_P (dC, dI) vwCl [(m0, .inr (12, [.int 0, .ref l1, .ref l2, .int 0, .int 0, .int 0, .long s0])), (l2, .inr (1, [.int 0, .ref a0, .int 0])), (q_1, .inl (cy_2, 5, .inl (fun _ => 0))), (r_3, .inr (0, [.int 0, .int (-1), .int 0, .ref l1])), (q_6, .inl (cy_7, 11, .inl (upd (upd (upd (fun _ => 0) ((0 : Int32).toNatClampNeg) 0) ((1 : Int32).toNatClampNeg) 0) ((2 : Int32).toNatClampNeg) 0))), (l1, .inr (1, [.int 0, .ref a0, .int 0]))] H := hP
  have hD : va_D A [(m0, .inr (12, [.int 0, .ref l1, .ref l2, .int 0, .int 0, .int 0, .long s0])), (l2, .inr (1, [.int 0, .ref a0, .int 0])), (q_1, .inl (cy_2, 5, .inl (fun _ => 0))), (r_3, .inr (0, [.int 0, .int (-1), .int 0, .ref l1])), (q_6, .inl (cy_7, 11, .inl (upd (upd (upd (fun _ => 0) ((0 : Int32).toNatClampNeg) 0) ((1 : Int32).toNatClampNeg) 0) ((2 : Int32).toNatClampNeg) 0))), (l1, .inr (1, [.int 0, .ref a0, .int 0]))] := hD
  refine lv_dup hx hb dX10_manyNow_87 rfl ?_
  refine lv_iconst (v := 3) hx hb dX10_manyNow_88 (by decide) ?_
  refine lv_aload_n hx hb dX10_manyNow_89 rfl (lv_at hl 2 rfl) ?_
  refine lv_iconst (v := 2) hx hb dX10_manyNow_90 (by decide) ?_
  refine va_iald hx hb hK hP 2 0 rfl rfl (by unfold vp_in; decide) dX10_manyNow_91 ?_
  refine lv_topi (fun x_14 ex_14 => ?_)
  obtain rfl : x_14 = 0 := ex_14.trans (by decide +kernel)
  refine va_iast hx hb hK hP hD hS 4 1 rfl rfl (by unfold vp_in; decide) dX10_manyNow_92 (fun H locs hP hD hS => ?_)
  have hP : va_P (dC, dI) vwCl [(m0, .inr (12, [.int 0, .ref l1, .ref l2, .int 0, .int 0, .int 0, .long s0])), (l2, .inr (1, [.int 0, .ref a0, .int 0])), (q_1, .inl (cy_2, 5, .inl (fun _ => 0))), (r_3, .inr (0, [.int 0, .int (-1), .int 0, .ref l1])), (q_6, .inl (cy_7, 11, .inl (upd (upd (upd (upd (fun _ => 0) ((0 : Int32).toNatClampNeg) 0) ((1 : Int32).toNatClampNeg) 0) ((2 : Int32).toNatClampNeg) 0) ((3 : Int32).toNatClampNeg) 0))), (l1, .inr (1, [.int 0, .ref a0, .int 0]))] H := hP
  have hD : va_D A [(m0, .inr (12, [.int 0, .ref l1, .ref l2, .int 0, .int 0, .int 0, .long s0])), (l2, .inr (1, [.int 0, .ref a0, .int 0])), (q_1, .inl (cy_2, 5, .inl (fun _ => 0))), (r_3, .inr (0, [.int 0, .int (-1), .int 0, .ref l1])), (q_6, .inl (cy_7, 11, .inl (upd (upd (upd (upd (fun _ => 0) ((0 : Int32).toNatClampNeg) 0) ((1 : Int32).toNatClampNeg) 0) ((2 : Int32).toNatClampNeg) 0) ((3 : Int32).toNatClampNeg) 0))), (l1, .inr (1, [.int 0, .ref a0, .int 0]))] := hD
  refine lv_dup hx hb dX10_manyNow_93 rfl ?_
  refine lv_iconst (v := 4) hx hb dX10_manyNow_94 (by decide) ?_
  refine lv_aload_n hx hb dX10_manyNow_95 rfl (lv_at hl 2 rfl) ?_
  refine lv_iconst (v := 3) hx hb dX10_manyNow_96 (by decide) ?_
  refine va_iald hx hb hK hP 2 0 rfl rfl (by unfold vp_in; decide) dX10_manyNow_97 ?_
  refine lv_topi (fun x_16 ex_16 => ?_)
  obtain rfl : x_16 = 0 := ex_16.trans (by decide +kernel)
  refine va_iast hx hb hK hP hD hS 4 1 rfl rfl (by unfold vp_in; decide) dX10_manyNow_98 (fun H locs hP hD hS => ?_)
  have hP : va_P (dC, dI) vwCl [(m0, .inr (12, [.int 0, .ref l1, .ref l2, .int 0, .int 0, .int 0, .long s0])), (l2, .inr (1, [.int 0, .ref a0, .int 0])), (q_1, .inl (cy_2, 5, .inl (fun _ => 0))), (r_3, .inr (0, [.int 0, .int (-1), .int 0, .ref l1])), (q_6, .inl (cy_7, 11, .inl (upd (upd (upd (upd (upd (fun _ => 0) ((0 : Int32).toNatClampNeg) 0) ((1 : Int32).toNatClampNeg) 0) ((2 : Int32).toNatClampNeg) 0) ((3 : Int32).toNatClampNeg) 0) ((4 : Int32).toNatClampNeg) 0))), (l1, .inr (1, [.int 0, .ref a0, .int 0]))] H := hP
  have hD : va_D A [(m0, .inr (12, [.int 0, .ref l1, .ref l2, .int 0, .int 0, .int 0, .long s0])), (l2, .inr (1, [.int 0, .ref a0, .int 0])), (q_1, .inl (cy_2, 5, .inl (fun _ => 0))), (r_3, .inr (0, [.int 0, .int (-1), .int 0, .ref l1])), (q_6, .inl (cy_7, 11, .inl (upd (upd (upd (upd (upd (fun _ => 0) ((0 : Int32).toNatClampNeg) 0) ((1 : Int32).toNatClampNeg) 0) ((2 : Int32).toNatClampNeg) 0) ((3 : Int32).toNatClampNeg) 0) ((4 : Int32).toNatClampNeg) 0))), (l1, .inr (1, [.int 0, .ref a0, .int 0]))] := hD
  refine lv_dup hx hb dX10_manyNow_99 rfl ?_
  refine lv_iconst (v := 5) hx hb dX10_manyNow_100 (by decide) ?_
  refine lv_aload_n hx hb dX10_manyNow_101 rfl (lv_at hl 2 rfl) ?_
  refine lv_iconst (v := 4) hx hb dX10_manyNow_102 (by decide) ?_
  refine va_iald hx hb hK hP 2 0 rfl rfl (by unfold vp_in; decide) dX10_manyNow_103 ?_
  refine lv_topi (fun x_18 ex_18 => ?_)
  obtain rfl : x_18 = 0 := ex_18.trans (by decide +kernel)
  refine va_iast hx hb hK hP hD hS 4 1 rfl rfl (by unfold vp_in; decide) dX10_manyNow_104 (fun H locs hP hD hS => ?_)
  have hP : va_P (dC, dI) vwCl [(m0, .inr (12, [.int 0, .ref l1, .ref l2, .int 0, .int 0, .int 0, .long s0])), (l2, .inr (1, [.int 0, .ref a0, .int 0])), (q_1, .inl (cy_2, 5, .inl (fun _ => 0))), (r_3, .inr (0, [.int 0, .int (-1), .int 0, .ref l1])), (q_6, .inl (cy_7, 11, .inl (upd (upd (upd (upd (upd (upd (fun _ => 0) ((0 : Int32).toNatClampNeg) 0) ((1 : Int32).toNatClampNeg) 0) ((2 : Int32).toNatClampNeg) 0) ((3 : Int32).toNatClampNeg) 0) ((4 : Int32).toNatClampNeg) 0) ((5 : Int32).toNatClampNeg) 0))), (l1, .inr (1, [.int 0, .ref a0, .int 0]))] H := hP
  have hD : va_D A [(m0, .inr (12, [.int 0, .ref l1, .ref l2, .int 0, .int 0, .int 0, .long s0])), (l2, .inr (1, [.int 0, .ref a0, .int 0])), (q_1, .inl (cy_2, 5, .inl (fun _ => 0))), (r_3, .inr (0, [.int 0, .int (-1), .int 0, .ref l1])), (q_6, .inl (cy_7, 11, .inl (upd (upd (upd (upd (upd (upd (fun _ => 0) ((0 : Int32).toNatClampNeg) 0) ((1 : Int32).toNatClampNeg) 0) ((2 : Int32).toNatClampNeg) 0) ((3 : Int32).toNatClampNeg) 0) ((4 : Int32).toNatClampNeg) 0) ((5 : Int32).toNatClampNeg) 0))), (l1, .inr (1, [.int 0, .ref a0, .int 0]))] := hD
  refine lv_dup hx hb dX10_manyNow_105 rfl ?_
  refine lv_bipush (v := 6) hx hb dX10_manyNow_106 (by decide) ?_
  refine lv_aload_n hx hb dX10_manyNow_108 rfl (lv_at hl 3 rfl) ?_
  refine va_get (D := (dC, dI)) (ci := 12) (v := .ref l2) (C := RX10) (T := TX10) (N := 7) hx hb hts hiX10 hown hK hP 0 rfl rfl 2 (by decide) (hts (.fieldLink RX10 16 "HaltingaleModel" "tags" "Ljava/util/ArrayList;") (by decide +kernel)) (fun _ h9 => h9) rfl dX10_manyNow_109 ?_
  have hPc := hP.sub (ws' := [(l2, .inr (1, [.int 0, .ref a0, .int 0]))]) [1] rfl
  have hDc := hD.sub (ws' := [(l2, .inr (1, [.int 0, .ref a0, .int 0]))]) [1] (by decide) rfl
  have hKc := hK.sub (tys' := []) [] rfl
  have hFc := va_free (wc := [(l2, .inr (1, [.int 0, .ref a0, .int 0]))]) hD hS hA [1] rfl
  have hZc := ((hZ.kept hS.2.1).narrow hFc)
  refine va_calli (va_runV (As := []) (rest := [.int 6, .ref q_6, .ref q_6]) ⟨hx, hb, hml, hown, hts⟩ (c_Jx4a65c_size_8abf5 l hnt dC dI a0 l2 0 a0 0 H.size ) (cwV 0 hts (goodIn_of _ (by decide +kernel)) rfl rfl rfl (by decide +kernel) ⟨Nat.le_of_ble_eq_true rfl, Nat.le_of_ble_eq_true rfl⟩) ⟨fun a U g mk q => by obtain ⟨q0, q1, qP, qK, qD, qZ⟩ := q; exact ⟨q0, q1, qP, va_K.moved (u := U) (U := U.calling g mk a) (Vm.Alike.refl U.vm) qK, qD, qZ.call⟩, va_recv hKc hPc (ci := 1) (q0 := 0) rfl rfl, fun U hU hW => ⟨rfl, by rw [hU], by rw [hU]; exact hPc, va_K.moved hW.alike hKc, hDc.weaken (fun _ _ _ _ => trivial), by rw [hU]; exact hZc.warm hW⟩⟩ rfl rfl hl.1 rfl (lv_room (Nat.le_of_ble_eq_true rfl)) dX10_manyNow_112 ⟨Nat.le_of_ble_eq_true rfl, Nat.le_of_ble_eq_true rfl⟩) hS (fun q _ h => hFc q h) hFc (fun r_20 u t H1 locs ht hvm hw hB hz1 hk1 hS => ?_)
  obtain ⟨hP1, hK1, hD1⟩ := hB
  rw [ht] at hP1
  have hK1 := va_K.moved hvm.symm hK1
  obtain ⟨hP, hD⟩ := va_join (wr := [(m0, .inr (12, [.int 0, .ref l1, .ref l2, .int 0, .int 0, .int 0, .long s0])), (q_1, .inl (cy_2, 5, .inl (fun _ => 0))), (r_3, .inr (0, [.int 0, .int (-1), .int 0, .ref l1])), (q_6, .inl (cy_7, 11, .inl (upd (upd (upd (upd (upd (upd (fun _ => 0) ((0 : Int32).toNatClampNeg) 0) ((1 : Int32).toNatClampNeg) 0) ((2 : Int32).toNatClampNeg) 0) ((3 : Int32).toNatClampNeg) 0) ((4 : Int32).toNatClampNeg) 0) ((5 : Int32).toNatClampNeg) 0))), (l1, .inr (1, [.int 0, .ref a0, .int 0]))]) (w1 := [(l2, .inr (1, [.int 0, .ref a0, .int 0]))]) hP hD [1] [0, 2, 3, 4, 5] rfl rfl (by decide) (by decide) hk1 hFc hP1 hD1
  have hK := (hK.sub (tys' := [(cy_2, .int), (cy_7, .int)]) [0, 1] rfl).app hK1
  generalize H1 = H at hP hS ⊢
  have hP : va_P (dC, dI) vwCl [(m0, .inr (12, [.int 0, .ref l1, .ref l2, .int 0, .int 0, .int 0, .long s0])), (q_1, .inl (cy_2, 5, .inl (fun _ => 0))), (r_3, .inr (0, [.int 0, .int (-1), .int 0, .ref l1])), (q_6, .inl (cy_7, 11, .inl (upd (upd (upd (upd (upd (upd (fun _ => 0) ((0 : Int32).toNatClampNeg) 0) ((1 : Int32).toNatClampNeg) 0) ((2 : Int32).toNatClampNeg) 0) ((3 : Int32).toNatClampNeg) 0) ((4 : Int32).toNatClampNeg) 0) ((5 : Int32).toNatClampNeg) 0))), (l1, .inr (1, [.int 0, .ref a0, .int 0])), (l2, .inr (1, [.int 0, .ref a0, .int 0]))] H := hP
  have hD : va_D A [(m0, .inr (12, [.int 0, .ref l1, .ref l2, .int 0, .int 0, .int 0, .long s0])), (q_1, .inl (cy_2, 5, .inl (fun _ => 0))), (r_3, .inr (0, [.int 0, .int (-1), .int 0, .ref l1])), (q_6, .inl (cy_7, 11, .inl (upd (upd (upd (upd (upd (upd (fun _ => 0) ((0 : Int32).toNatClampNeg) 0) ((1 : Int32).toNatClampNeg) 0) ((2 : Int32).toNatClampNeg) 0) ((3 : Int32).toNatClampNeg) 0) ((4 : Int32).toNatClampNeg) 0) ((5 : Int32).toNatClampNeg) 0))), (l1, .inr (1, [.int 0, .ref a0, .int 0])), (l2, .inr (1, [.int 0, .ref a0, .int 0]))] := hD
  have hK : va_K (dC, dI) vwCl [(cy_2, .int), (cy_7, .int)] s := hK
  refine W.widen (k := 3) (n := 20) (Nat.le_of_ble_eq_true rfl) (Nat.le_of_ble_eq_true rfl) ?_
  obtain rfl : r_20 = 0 := hw
  refine va_iast hx hb hK hP hD hS 3 1 rfl rfl (by unfold vp_in; decide) dX10_manyNow_115 (fun H locs hP hD hS => ?_)
  have hP : va_P (dC, dI) vwCl [(m0, .inr (12, [.int 0, .ref l1, .ref l2, .int 0, .int 0, .int 0, .long s0])), (q_1, .inl (cy_2, 5, .inl (fun _ => 0))), (r_3, .inr (0, [.int 0, .int (-1), .int 0, .ref l1])), (q_6, .inl (cy_7, 11, .inl (upd (upd (upd (upd (upd (upd (upd (fun _ => 0) ((0 : Int32).toNatClampNeg) 0) ((1 : Int32).toNatClampNeg) 0) ((2 : Int32).toNatClampNeg) 0) ((3 : Int32).toNatClampNeg) 0) ((4 : Int32).toNatClampNeg) 0) ((5 : Int32).toNatClampNeg) 0) ((6 : Int32).toNatClampNeg) 0))), (l1, .inr (1, [.int 0, .ref a0, .int 0])), (l2, .inr (1, [.int 0, .ref a0, .int 0]))] H := hP
  have hD : va_D A [(m0, .inr (12, [.int 0, .ref l1, .ref l2, .int 0, .int 0, .int 0, .long s0])), (q_1, .inl (cy_2, 5, .inl (fun _ => 0))), (r_3, .inr (0, [.int 0, .int (-1), .int 0, .ref l1])), (q_6, .inl (cy_7, 11, .inl (upd (upd (upd (upd (upd (upd (upd (fun _ => 0) ((0 : Int32).toNatClampNeg) 0) ((1 : Int32).toNatClampNeg) 0) ((2 : Int32).toNatClampNeg) 0) ((3 : Int32).toNatClampNeg) 0) ((4 : Int32).toNatClampNeg) 0) ((5 : Int32).toNatClampNeg) 0) ((6 : Int32).toNatClampNeg) 0))), (l1, .inr (1, [.int 0, .ref a0, .int 0])), (l2, .inr (1, [.int 0, .ref a0, .int 0]))] := hD
  refine lv_dup hx hb dX10_manyNow_116 rfl ?_
  refine lv_bipush (v := 7) hx hb dX10_manyNow_117 (by decide) ?_
  refine lv_aload_n hx hb dX10_manyNow_119 rfl (lv_at hl 3 rfl) ?_
  refine va_get (D := (dC, dI)) (ci := 12) (v := .int 0) (C := RX10) (T := TX10) (N := 7) hx hb hts hiX10 hown hK hP 0 rfl rfl 3 (by decide) (hts (.fieldLink RX10 191 "HaltingaleModel" "given" "I") (by decide +kernel)) (fun _ h9 => h9) rfl dX10_manyNow_120 ?_
  refine va_iast hx hb hK hP hD hS 3 1 rfl rfl (by unfold vp_in; decide) dX10_manyNow_123 (fun H locs hP hD hS => ?_)
  have hP : va_P (dC, dI) vwCl [(m0, .inr (12, [.int 0, .ref l1, .ref l2, .int 0, .int 0, .int 0, .long s0])), (q_1, .inl (cy_2, 5, .inl (fun _ => 0))), (r_3, .inr (0, [.int 0, .int (-1), .int 0, .ref l1])), (q_6, .inl (cy_7, 11, .inl (upd (upd (upd (upd (upd (upd (upd (upd (fun _ => 0) ((0 : Int32).toNatClampNeg) 0) ((1 : Int32).toNatClampNeg) 0) ((2 : Int32).toNatClampNeg) 0) ((3 : Int32).toNatClampNeg) 0) ((4 : Int32).toNatClampNeg) 0) ((5 : Int32).toNatClampNeg) 0) ((6 : Int32).toNatClampNeg) 0) ((7 : Int32).toNatClampNeg) 0))), (l1, .inr (1, [.int 0, .ref a0, .int 0])), (l2, .inr (1, [.int 0, .ref a0, .int 0]))] H := hP
  have hD : va_D A [(m0, .inr (12, [.int 0, .ref l1, .ref l2, .int 0, .int 0, .int 0, .long s0])), (q_1, .inl (cy_2, 5, .inl (fun _ => 0))), (r_3, .inr (0, [.int 0, .int (-1), .int 0, .ref l1])), (q_6, .inl (cy_7, 11, .inl (upd (upd (upd (upd (upd (upd (upd (upd (fun _ => 0) ((0 : Int32).toNatClampNeg) 0) ((1 : Int32).toNatClampNeg) 0) ((2 : Int32).toNatClampNeg) 0) ((3 : Int32).toNatClampNeg) 0) ((4 : Int32).toNatClampNeg) 0) ((5 : Int32).toNatClampNeg) 0) ((6 : Int32).toNatClampNeg) 0) ((7 : Int32).toNatClampNeg) 0))), (l1, .inr (1, [.int 0, .ref a0, .int 0])), (l2, .inr (1, [.int 0, .ref a0, .int 0]))] := hD
  refine lv_dup hx hb dX10_manyNow_124 rfl ?_
  refine lv_bipush (v := 8) hx hb dX10_manyNow_125 (by decide) ?_
  refine lv_aload_n hx hb dX10_manyNow_127 rfl (lv_at hl 3 rfl) ?_
  refine va_get (D := (dC, dI)) (ci := 12) (v := .int 0) (C := RX10) (T := TX10) (N := 7) hx hb hts hiX10 hown hK hP 0 rfl rfl 4 (by decide) (hts (.fieldLink RX10 194 "HaltingaleModel" "taken" "I") (by decide +kernel)) (fun _ h9 => h9) rfl dX10_manyNow_128 ?_
  refine va_iast hx hb hK hP hD hS 3 1 rfl rfl (by unfold vp_in; decide) dX10_manyNow_131 (fun H locs hP hD hS => ?_)
  have hP : va_P (dC, dI) vwCl [(m0, .inr (12, [.int 0, .ref l1, .ref l2, .int 0, .int 0, .int 0, .long s0])), (q_1, .inl (cy_2, 5, .inl (fun _ => 0))), (r_3, .inr (0, [.int 0, .int (-1), .int 0, .ref l1])), (q_6, .inl (cy_7, 11, .inl (upd (upd (upd (upd (upd (upd (upd (upd (upd (fun _ => 0) ((0 : Int32).toNatClampNeg) 0) ((1 : Int32).toNatClampNeg) 0) ((2 : Int32).toNatClampNeg) 0) ((3 : Int32).toNatClampNeg) 0) ((4 : Int32).toNatClampNeg) 0) ((5 : Int32).toNatClampNeg) 0) ((6 : Int32).toNatClampNeg) 0) ((7 : Int32).toNatClampNeg) 0) ((8 : Int32).toNatClampNeg) 0))), (l1, .inr (1, [.int 0, .ref a0, .int 0])), (l2, .inr (1, [.int 0, .ref a0, .int 0]))] H := hP
  have hD : va_D A [(m0, .inr (12, [.int 0, .ref l1, .ref l2, .int 0, .int 0, .int 0, .long s0])), (q_1, .inl (cy_2, 5, .inl (fun _ => 0))), (r_3, .inr (0, [.int 0, .int (-1), .int 0, .ref l1])), (q_6, .inl (cy_7, 11, .inl (upd (upd (upd (upd (upd (upd (upd (upd (upd (fun _ => 0) ((0 : Int32).toNatClampNeg) 0) ((1 : Int32).toNatClampNeg) 0) ((2 : Int32).toNatClampNeg) 0) ((3 : Int32).toNatClampNeg) 0) ((4 : Int32).toNatClampNeg) 0) ((5 : Int32).toNatClampNeg) 0) ((6 : Int32).toNatClampNeg) 0) ((7 : Int32).toNatClampNeg) 0) ((8 : Int32).toNatClampNeg) 0))), (l1, .inr (1, [.int 0, .ref a0, .int 0])), (l2, .inr (1, [.int 0, .ref a0, .int 0]))] := hD
  refine lv_dup hx hb dX10_manyNow_132 rfl ?_
  refine lv_bipush (v := 9) hx hb dX10_manyNow_133 (by decide) ?_
  refine lv_aload_n hx hb dX10_manyNow_135 rfl (lv_at hl 3 rfl) ?_
  refine va_get (D := (dC, dI)) (ci := 12) (v := .int 0) (C := RX10) (T := TX10) (N := 7) hx hb hts hiX10 hown hK hP 0 rfl rfl 5 (by decide) (hts (.fieldLink RX10 67 "HaltingaleModel" "back" "I") (by decide +kernel)) (fun _ h9 => h9) rfl dX10_manyNow_136 ?_
  refine va_iast hx hb hK hP hD hS 3 1 rfl rfl (by unfold vp_in; decide) dX10_manyNow_139 (fun H locs hP hD hS => ?_)
  have hP : va_P (dC, dI) vwCl [(m0, .inr (12, [.int 0, .ref l1, .ref l2, .int 0, .int 0, .int 0, .long s0])), (q_1, .inl (cy_2, 5, .inl (fun _ => 0))), (r_3, .inr (0, [.int 0, .int (-1), .int 0, .ref l1])), (q_6, .inl (cy_7, 11, .inl (upd (upd (upd (upd (upd (upd (upd (upd (upd (upd (fun _ => 0) ((0 : Int32).toNatClampNeg) 0) ((1 : Int32).toNatClampNeg) 0) ((2 : Int32).toNatClampNeg) 0) ((3 : Int32).toNatClampNeg) 0) ((4 : Int32).toNatClampNeg) 0) ((5 : Int32).toNatClampNeg) 0) ((6 : Int32).toNatClampNeg) 0) ((7 : Int32).toNatClampNeg) 0) ((8 : Int32).toNatClampNeg) 0) ((9 : Int32).toNatClampNeg) 0))), (l1, .inr (1, [.int 0, .ref a0, .int 0])), (l2, .inr (1, [.int 0, .ref a0, .int 0]))] H := hP
  have hD : va_D A [(m0, .inr (12, [.int 0, .ref l1, .ref l2, .int 0, .int 0, .int 0, .long s0])), (q_1, .inl (cy_2, 5, .inl (fun _ => 0))), (r_3, .inr (0, [.int 0, .int (-1), .int 0, .ref l1])), (q_6, .inl (cy_7, 11, .inl (upd (upd (upd (upd (upd (upd (upd (upd (upd (upd (fun _ => 0) ((0 : Int32).toNatClampNeg) 0) ((1 : Int32).toNatClampNeg) 0) ((2 : Int32).toNatClampNeg) 0) ((3 : Int32).toNatClampNeg) 0) ((4 : Int32).toNatClampNeg) 0) ((5 : Int32).toNatClampNeg) 0) ((6 : Int32).toNatClampNeg) 0) ((7 : Int32).toNatClampNeg) 0) ((8 : Int32).toNatClampNeg) 0) ((9 : Int32).toNatClampNeg) 0))), (l1, .inr (1, [.int 0, .ref a0, .int 0])), (l2, .inr (1, [.int 0, .ref a0, .int 0]))] := hD
  refine lv_dup hx hb dX10_manyNow_140 rfl ?_
  refine lv_bipush (v := 10) hx hb dX10_manyNow_141 (by decide) ?_
  refine lv_iload_n hx hb dX10_manyNow_143 rfl (lv_at hl 1 rfl) ?_
  refine va_iast hx hb hK hP hD hS 3 1 rfl rfl (by unfold vp_in; decide) dX10_manyNow_144 (fun H locs hP hD hS => ?_)
  have hP : va_P (dC, dI) vwCl [(m0, .inr (12, [.int 0, .ref l1, .ref l2, .int 0, .int 0, .int 0, .long s0])), (q_1, .inl (cy_2, 5, .inl (fun _ => 0))), (r_3, .inr (0, [.int 0, .int (-1), .int 0, .ref l1])), (q_6, .inl (cy_7, 11, .inl (upd (upd (upd (upd (upd (upd (upd (upd (upd (upd (upd (fun _ => 0) ((0 : Int32).toNatClampNeg) 0) ((1 : Int32).toNatClampNeg) 0) ((2 : Int32).toNatClampNeg) 0) ((3 : Int32).toNatClampNeg) 0) ((4 : Int32).toNatClampNeg) 0) ((5 : Int32).toNatClampNeg) 0) ((6 : Int32).toNatClampNeg) 0) ((7 : Int32).toNatClampNeg) 0) ((8 : Int32).toNatClampNeg) 0) ((9 : Int32).toNatClampNeg) 0) ((10 : Int32).toNatClampNeg) 0))), (l1, .inr (1, [.int 0, .ref a0, .int 0])), (l2, .inr (1, [.int 0, .ref a0, .int 0]))] H := hP
  have hD : va_D A [(m0, .inr (12, [.int 0, .ref l1, .ref l2, .int 0, .int 0, .int 0, .long s0])), (q_1, .inl (cy_2, 5, .inl (fun _ => 0))), (r_3, .inr (0, [.int 0, .int (-1), .int 0, .ref l1])), (q_6, .inl (cy_7, 11, .inl (upd (upd (upd (upd (upd (upd (upd (upd (upd (upd (upd (fun _ => 0) ((0 : Int32).toNatClampNeg) 0) ((1 : Int32).toNatClampNeg) 0) ((2 : Int32).toNatClampNeg) 0) ((3 : Int32).toNatClampNeg) 0) ((4 : Int32).toNatClampNeg) 0) ((5 : Int32).toNatClampNeg) 0) ((6 : Int32).toNatClampNeg) 0) ((7 : Int32).toNatClampNeg) 0) ((8 : Int32).toNatClampNeg) 0) ((9 : Int32).toNatClampNeg) 0) ((10 : Int32).toNatClampNeg) 0))), (l1, .inr (1, [.int 0, .ref a0, .int 0])), (l2, .inr (1, [.int 0, .ref a0, .int 0]))] := hD
  refine lv_astore (lv' := [(4, .ref q_6), (3, .int 0), (2, .ref q_1), (0, .ref m0), (1, .int 9)]) hx hb dX10_manyNow_145 hl (by decide) rfl (fun ls hl => ?_)
  refine lv_aload hx hb dX10_manyNow_147 (lv_at hl 0 rfl) ?_
  refine lv_iload_n hx hb dX10_manyNow_149 rfl (lv_at hl 4 rfl) ?_
  refine va_iald hx hb hK hP 3 1 rfl rfl (by unfold vp_in; decide) dX10_manyNow_150 ?_
  refine lv_topi (fun x_26 ex_26 => ?_)
  obtain rfl : x_26 = 0 := ex_26.trans (by decide +kernel)
  have hP9 := hP.sub (ws' := [(m0, .inr (12, [.int 0, .ref l1, .ref l2, .int 0, .int 0, .int 0, .long s0])), (l1, .inr (1, [.int 0, .ref a0, .int 0])), (l2, .inr (1, [.int 0, .ref a0, .int 0]))]) [0, 4, 5] rfl
  have hD9 := hD.sub (ws' := [(m0, .inr (12, [.int 0, .ref l1, .ref l2, .int 0, .int 0, .int 0, .long s0])), (l1, .inr (1, [.int 0, .ref a0, .int 0])), (l2, .inr (1, [.int 0, .ref a0, .int 0]))]) [0, 4, 5] (by decide) rfl
  have hK9 := hK.sub (tys' := []) [] rfl
  refine W.widen (k := 3) (n := 20) (Nat.le_of_ble_eq_true rfl) (Nat.le_of_ble_eq_true rfl) ?_
  exact W.iret (v := 0) hx hb hr (fun t ht hW => ⟨⟨0, (), rfl, rfl, ⟨by rw [ht]; exact hP9, va_K.moved hW.alike hK9, hD9⟩⟩, hS.F ht⟩) hS.2.2 dX10_manyNow_151

def zs_c_X10_manyNow_10 : List Cond := .code yX10_manyNow cX10_manyNow 6 (some .int) :: (([.arrayClass .int, .fieldLink RX10 10 "HaltingaleModel" "machines" "Ljava/util/ArrayList;", .code yJx4a65c_iterator_32c93 cJx4a65c_iterator_32c93 1 (some (.object "java/util/Iterator")), .classLink RJx4a65c 267 RJx35411, .instantiable RJx35411 4, .initialized RJx35411, .code yJx35411_init_45d68 cJx35411_init_45d68 2 none, .fieldLink RJx35411 1 "java/util/ArrayList$Itr" "this$0" "Ljava/util/ArrayList;", .methodLink RJx35411 7 objectInit, .instanceMethod objectInit, .code objectInit ⟨#[0xb1]⟩ 1 none, .fieldLink RJx35411 13 "java/util/ArrayList$Itr" "lastRet" "I", .sameField "java/util/ArrayList" "java/util/AbstractList" "modCount" "I", .fieldLink RJx35411 17 "java/util/ArrayList" "modCount" "I", .fieldLink RJx35411 22 "java/util/ArrayList$Itr" "expectedModCount" "I", .methodLink RJx4a65c 269 yJx35411_init_45d68, .instanceMethod yJx35411_init_45d68, .methodLink RX10 158 yJx4a65c_iterator_32c93, .instanceMethod yJx4a65c_iterator_32c93, .initialized RJx4a65c, .selects RJx4a65c yJx4a65c_iterator_32c93 yJx4a65c_iterator_32c93, .code yJx35411_hasNext_aae02 cJx35411_hasNext_aae02 1 (some .boolean), .fieldLink RJx35411 25 "java/util/ArrayList$Itr" "cursor" "I", .methodLink RX10 162 ⟨"java/util/Iterator", "hasNext", "()Z"⟩, .instanceMethod yJx35411_hasNext_aae02, .selects RJx35411 ⟨"java/util/Iterator", "hasNext", "()Z"⟩ yJx35411_hasNext_aae02, .code yJx4a65c_size_8abf5 cJx4a65c_size_8abf5 1 (some .int), .fieldLink RJx4a65c 48 "java/util/ArrayList" "size" "I", .methodLink RX10 23 yJx4a65c_size_8abf5, .instanceMethod yJx4a65c_size_8abf5, .selects RJx4a65c yJx4a65c_size_8abf5 yJx4a65c_size_8abf5, .fieldLink RX10 16 "HaltingaleModel" "tags" "Ljava/util/ArrayList;", .fieldLink RX10 191 "HaltingaleModel" "given" "I", .fieldLink RX10 194 "HaltingaleModel" "taken" "I", .fieldLink RX10 67 "HaltingaleModel" "back" "I"] : List Cond) ++ wsX100 ++ wsJx354110 ++ wsJx4a65c0)
set_option maxHeartbeats 4000000 in
set_option maxRecDepth 100000 in
/-- manyNow of 10 -/
theorem c_X10_manyNow_10 (l : Launch) (hnt : l.stackTraces = false) (dC : Nat → ClassId) (dI : Nat → Nat → Nat) (a0 : Nat) (m0 : Nat) (l1 : Nat) (l2 : Nat) (s0 : Int64) (sz : Nat)  : Met l yX10_manyNow zs_c_X10_manyNow_10 ({ frames := 3, cells := 3, slots := 20, locals := 53 }) (va_Pc [.ref m0, .int 10] (fun U => U.heap.size = sz ∧ va_P (dC, dI) vwCl [(m0, .inr (12, [.int 0, .ref l1, .ref l2, .int 0, .int 0, .int 0, .long s0])), (l1, .inr (1, [.int 0, .ref a0, .int 0])), (l2, .inr (1, [.int 0, .ref a0, .int 0]))] U.heap ∧ va_K (dC, dI) vwCl [] U ∧ va_D (fun _ => True) [(m0, .inr (12, [.int 0, .ref l1, .ref l2, .int 0, .int 0, .int 0, .long s0])), (l1, .inr (1, [.int 0, .ref a0, .int 0])), (l2, .inr (1, [.int 0, .ref a0, .int 0]))] ∧ zB a0 (va_A [(m0, .inr (12, [.int 0, .ref l1, .ref l2, .int 0, .int 0, .int 0, .long s0])), (l1, .inr (1, [.int 0, .ref a0, .int 0])), (l2, .inr (1, [.int 0, .ref a0, .int 0]))] sz) U U.heap)) (va_Qi (fun (r : Int32) (_ : Unit) => r = 0) (fun _ t => va_P (dC, dI) vwCl [(m0, .inr (12, [.int 0, .ref l1, .ref l2, .int 0, .int 0, .int 0, .long s0])), (l1, .inr (1, [.int 0, .ref a0, .int 0])), (l2, .inr (1, [.int 0, .ref a0, .int 0]))] t.heap ∧ va_K (dC, dI) vwCl [] t ∧ va_D (va_A [(m0, .inr (12, [.int 0, .ref l1, .ref l2, .int 0, .int 0, .int 0, .long s0])), (l1, .inr (1, [.int 0, .ref a0, .int 0])), (l2, .inr (1, [.int 0, .ref a0, .int 0]))] sz) [(m0, .inr (12, [.int 0, .ref l1, .ref l2, .int 0, .int 0, .int 0, .long s0])), (l1, .inr (1, [.int 0, .ref a0, .int 0])), (l2, .inr (1, [.int 0, .ref a0, .int 0]))]) (va_A [(m0, .inr (12, [.int 0, .ref l1, .ref l2, .int 0, .int 0, .int 0, .long s0])), (l1, .inr (1, [.int 0, .ref a0, .int 0])), (l2, .inr (1, [.int 0, .ref a0, .int 0]))] sz)) 3 20 (va_A [(m0, .inr (12, [.int 0, .ref l1, .ref l2, .int 0, .int 0, .int 0, .long s0])), (l1, .inr (1, [.int 0, .ref a0, .int 0])), (l2, .inr (1, [.int 0, .ref a0, .int 0]))] sz) := by
  refine Met.ofW (cc := cX10_manyNow) (maxL := 6) (ret := (some .int)) (by decide) rfl ?_
  intro p e s m args below meth c s₁ B hml hv
  obtain ⟨rfl, hsz, hP, hK, hD0, hZ⟩ := hv
  have hx := B.exec
  have hb := B.bytes
  have hr := B.returns
  have hts := atoms_spec (ws := zs_c_X10_manyNow_10) B.pre
  have hown : s.vm.findClass RX10 = some m.cls := findClass_of_methodNamed B.named
  have hlocks := B.notSynchronized
  have hiX10 : ∀ w ∈ wsX100, w ∈ zs_c_X10_manyNow_10 := by decide +kernel
  subst hsz
  have hD := hD0.self (sz := s.heap.size)
  generalize hAe : va_A [(m0, .inr (12, [.int 0, .ref l1, .ref l2, .int 0, .int 0, .int 0, .long s0])), (l1, .inr (1, [.int 0, .ref a0, .int 0])), (l2, .inr (1, [.int 0, .ref a0, .int 0]))] s.heap.size = A at hD hZ ⊢
  have hA : ∀ q : Nat, s.heap.size ≤ q → A q := fun q h => by rw [← hAe]; exact Or.inr h
  have hS : va_S A s.heap s.heap [] := va_S.rf
  have hl := lv_entry ([.ref m0, .int 10]) (n := 6) (Nat.le_of_ble_eq_true rfl)
  rw [lg_entry_eq]
  generalize (lg_sl ([.ref m0, .int 10]) ++ List.replicate (6 - (lg_sl ([.ref m0, .int 10])).length) Slot.unset).toArray = ls at hl ⊢
  have hl : lv_has ls 6 [(0, .ref m0), (1, .int 10)] := hl
  refine lv_iconst (v := 5) hx hb dX10_manyNow_0 (by decide) ?_
  refine va_newa (atype := .int) (ty := .int) (N' := 5) (a0 := (5, .inl (fun _ => 0))) hx hb (hts (.arrayClass .int) (by decide +kernel)) rfl hK hP hD hS hA (fun _ => rfl) (by decide) (by decide) (Nat.le_of_ble_eq_true rfl) (Nat.le_of_ble_eq_true rfl) (Nat.le_of_ble_eq_true rfl) dX10_manyNow_1 (fun q_1 cy_2 H hK hP hD hS => ?_)
  have hK : va_K (dC, dI) vwCl [(cy_2, .int)] s := hK
  have hP : va_P (dC, dI) vwCl [(m0, .inr (12, [.int 0, .ref l1, .ref l2, .int 0, .int 0, .int 0, .long s0])), (l1, .inr (1, [.int 0, .ref a0, .int 0])), (l2, .inr (1, [.int 0, .ref a0, .int 0])), (q_1, .inl (cy_2, 5, .inl (fun _ => 0)))] H := hP
  have hD : va_D A [(m0, .inr (12, [.int 0, .ref l1, .ref l2, .int 0, .int 0, .int 0, .long s0])), (l1, .inr (1, [.int 0, .ref a0, .int 0])), (l2, .inr (1, [.int 0, .ref a0, .int 0])), (q_1, .inl (cy_2, 5, .inl (fun _ => 0)))] := hD
  refine W.widen (k := 1) (n := 5) (Nat.le_of_ble_eq_true rfl) (Nat.le_of_ble_eq_true rfl) ?_
  refine lv_astore_n (lv' := [(2, .ref q_1), (0, .ref m0), (1, .int 10)]) hx hb dX10_manyNow_3 rfl hl (by decide) rfl (fun ls hl => ?_)
  refine lv_iconst (v := 0) hx hb dX10_manyNow_4 (by decide) ?_
  refine lv_istore_n (lv' := [(3, .int 0), (2, .ref q_1), (0, .ref m0), (1, .int 10)]) hx hb dX10_manyNow_5 rfl hl (by decide) rfl (fun ls hl => ?_)
  refine lv_aload_n hx hb dX10_manyNow_6 rfl (lv_at hl 2 rfl) ?_
  refine va_get (D := (dC, dI)) (ci := 12) (v := .ref l1) (C := RX10) (T := TX10) (N := 7) hx hb hts hiX10 hown hK hP 0 rfl rfl 1 (by decide) (hts (.fieldLink RX10 10 "HaltingaleModel" "machines" "Ljava/util/ArrayList;") (by decide +kernel)) (fun _ h9 => h9) rfl dX10_manyNow_7 ?_
  have hPc := hP.sub (ws' := [(l1, .inr (1, [.int 0, .ref a0, .int 0]))]) [1] rfl
  have hDc := hD.sub (ws' := [(l1, .inr (1, [.int 0, .ref a0, .int 0]))]) [1] (by decide) rfl
  have hKc := hK.sub (tys' := []) [] rfl
  have hFc := va_free (wc := [(l1, .inr (1, [.int 0, .ref a0, .int 0]))]) hD hS hA [1] rfl
  have hZc := ((hZ.kept hS.2.1).narrow hFc)
  refine va_callr (va_runV (As := []) (rest := []) ⟨hx, hb, hml, hown, hts⟩ (c_Jx4a65c_iterator_32c93 l hnt dC dI a0 l1 H.size ) (cwV 0 hts (goodIn_of _ (by decide +kernel)) rfl rfl rfl (by decide +kernel) ⟨Nat.le_of_ble_eq_true rfl, Nat.le_of_ble_eq_true rfl⟩) ⟨fun a U g mk q => by obtain ⟨q0, q1, qP, qK, qD, qZ⟩ := q; exact ⟨q0, q1, qP, va_K.moved (u := U) (U := U.calling g mk a) (Vm.Alike.refl U.vm) qK, qD, qZ.call⟩, va_recv hKc hPc (ci := 1) (q0 := 0) rfl rfl, fun U hU hW => ⟨rfl, by rw [hU], by rw [hU]; exact hPc, va_K.moved hW.alike hKc, hDc.weaken (fun _ _ _ _ => trivial), by rw [hU]; exact hZc.warm hW⟩⟩ rfl rfl hl.1 rfl (lv_room (Nat.le_of_ble_eq_true rfl)) dX10_manyNow_10 ⟨Nat.le_of_ble_eq_true rfl, Nat.le_of_ble_eq_true rfl⟩) hS (fun q _ h => hFc q h) hFc (fun u r_3 t H1 locs ht hvm hw hB hz1 hk1 hS => ?_)
  obtain ⟨hP1, hK1, hD1⟩ := hB
  rw [ht] at hP1
  have hK1 := va_K.moved hvm.symm hK1
  obtain ⟨hP, hD⟩ := va_join (wr := [(m0, .inr (12, [.int 0, .ref l1, .ref l2, .int 0, .int 0, .int 0, .long s0])), (l2, .inr (1, [.int 0, .ref a0, .int 0])), (q_1, .inl (cy_2, 5, .inl (fun _ => 0)))]) (w1 := [(r_3, .inr (0, [.int 0, .int (-1), .int 0, .ref l1])), (l1, .inr (1, [.int 0, .ref a0, .int 0]))]) hP hD [1] [0, 2, 3] rfl rfl (by decide) (by decide) hk1 hFc hP1 hD1
  have hK := (hK.sub (tys' := [(cy_2, .int)]) [0] rfl).app hK1
  generalize H1 = H at hP hS ⊢
  have hP : va_P (dC, dI) vwCl [(m0, .inr (12, [.int 0, .ref l1, .ref l2, .int 0, .int 0, .int 0, .long s0])), (l2, .inr (1, [.int 0, .ref a0, .int 0])), (q_1, .inl (cy_2, 5, .inl (fun _ => 0))), (r_3, .inr (0, [.int 0, .int (-1), .int 0, .ref l1])), (l1, .inr (1, [.int 0, .ref a0, .int 0]))] H := hP
  have hD : va_D A [(m0, .inr (12, [.int 0, .ref l1, .ref l2, .int 0, .int 0, .int 0, .long s0])), (l2, .inr (1, [.int 0, .ref a0, .int 0])), (q_1, .inl (cy_2, 5, .inl (fun _ => 0))), (r_3, .inr (0, [.int 0, .int (-1), .int 0, .ref l1])), (l1, .inr (1, [.int 0, .ref a0, .int 0]))] := hD
  have hK : va_K (dC, dI) vwCl [(cy_2, .int)] s := hK
  refine W.widen (k := 2) (n := 9) (Nat.le_of_ble_eq_true rfl) (Nat.le_of_ble_eq_true rfl) ?_
  refine lv_astore (lv' := [(4, .ref r_3), (3, .int 0), (2, .ref q_1), (0, .ref m0), (1, .int 10)]) hx hb dX10_manyNow_13 hl (by decide) rfl (fun ls hl => ?_)
  refine lv_aload hx hb dX10_manyNow_15 (lv_at hl 0 rfl) ?_
  have hPc := hP.sub (ws' := [(r_3, .inr (0, [.int 0, .int (-1), .int 0, .ref l1])), (l1, .inr (1, [.int 0, .ref a0, .int 0]))]) [3, 4] rfl
  have hDc := hD.sub (ws' := [(r_3, .inr (0, [.int 0, .int (-1), .int 0, .ref l1])), (l1, .inr (1, [.int 0, .ref a0, .int 0]))]) [3, 4] (by decide) rfl
  have hKc := hK.sub (tys' := []) [] rfl
  have hFc := va_free (wc := [(r_3, .inr (0, [.int 0, .int (-1), .int 0, .ref l1])), (l1, .inr (1, [.int 0, .ref a0, .int 0]))]) hD hS hA [3, 4] rfl
  have hZc := ((hZ.kept hS.2.1).narrow hFc)
  refine va_callFi (va_runF (As := []) (rest := []) (zz_at hK 0 rfl) ⟨hx, hb, hml, hown, hts⟩ (c_Jx35411_hasNext_aae02 l hnt dC dI a0 r_3 l1 H.size ) (va_cwF 0 hts (goodIn_of _ (by decide +kernel)) rfl rfl rfl hZ.fwN (by decide +kernel) ⟨Nat.le_of_ble_eq_true rfl, Nat.le_of_ble_eq_true rfl⟩) ⟨fun a U g mk q => by obtain ⟨q0, q1, qP, qK, qD, qZ⟩ := q; exact ⟨q0, q1, qP, va_K.moved (u := U) (U := U.calling g mk a) (Vm.Alike.refl U.vm) qK, qD, qZ.call⟩, va_recv hKc hPc (ci := 0) (q0 := 0) rfl rfl, fun U hU hW => ⟨rfl, by rw [hU], by rw [hU]; exact hPc, va_K.moved hW.alike hKc, hDc.weaken (fun _ _ _ _ => trivial), by rw [hU]; exact hZc.warm hW⟩⟩ rfl rfl hl.1 rfl (lv_room (Nat.le_of_ble_eq_true rfl)) dX10_manyNow_17 ⟨Nat.le_of_ble_eq_true rfl, Nat.le_of_ble_eq_true rfl⟩) hS (fun q _ h => hFc q h) hFc (fun r_4 u t H1 locs ht hvm hw hB hz1 hk1 hS => ?_)
  obtain ⟨hP1, hK1, hD1⟩ := hB
  rw [ht] at hP1
  have hK1 := va_K.moved hvm.symm hK1
  obtain ⟨hP, hD⟩ := va_join (wr := [(m0, .inr (12, [.int 0, .ref l1, .ref l2, .int 0, .int 0, .int 0, .long s0])), (l2, .inr (1, [.int 0, .ref a0, .int 0])), (q_1, .inl (cy_2, 5, .inl (fun _ => 0)))]) (w1 := [(r_3, .inr (0, [.int 0, .int (-1), .int 0, .ref l1])), (l1, .inr (1, [.int 0, .ref a0, .int 0]))]) hP hD [3, 4] [0, 1, 2] rfl rfl (by decide) (by decide) hk1 hFc hP1 hD1
  have hK := (hK.sub (tys' := [(cy_2, .int)]) [0] rfl).app hK1
  generalize H1 = H at hP hS ⊢
  have hP : va_P (dC, dI) vwCl [(m0, .inr (12, [.int 0, .ref l1, .ref l2, .int 0, .int 0, .int 0, .long s0])), (l2, .inr (1, [.int 0, .ref a0, .int 0])), (q_1, .inl (cy_2, 5, .inl (fun _ => 0))), (r_3, .inr (0, [.int 0, .int (-1), .int 0, .ref l1])), (l1, .inr (1, [.int 0, .ref a0, .int 0]))] H := hP
  have hD : va_D A [(m0, .inr (12, [.int 0, .ref l1, .ref l2, .int 0, .int 0, .int 0, .long s0])), (l2, .inr (1, [.int 0, .ref a0, .int 0])), (q_1, .inl (cy_2, 5, .inl (fun _ => 0))), (r_3, .inr (0, [.int 0, .int (-1), .int 0, .ref l1])), (l1, .inr (1, [.int 0, .ref a0, .int 0]))] := hD
  have hK : va_K (dC, dI) vwCl [(cy_2, .int)] s := hK
  refine W.widen (k := 2) (n := 9) (Nat.le_of_ble_eq_true rfl) (Nat.le_of_ble_eq_true rfl) ?_
  obtain rfl : r_4 = 0 := hw
  refine lv_if_eq (tgt := 61) hx hb dX10_manyNow_22 (by decide) (fun c_5 => ?_) (fun c_5 => ?_)
  rotate_left
  · (first | exact absurd c_5 (by decide) | exact absurd (by decide) c_5)
  refine lv_bipush (v := 11) hx hb dX10_manyNow_61 (by decide) ?_
  refine va_newa (atype := .int) (ty := .int) (N' := 11) (a0 := (11, .inl (fun _ => 0))) hx hb (hts (.arrayClass .int) (by decide +kernel)) rfl hK hP hD hS hA (fun _ => rfl) (by decide) (by decide) (Nat.le_of_ble_eq_true rfl) (Nat.le_of_ble_eq_true rfl) (Nat.le_of_ble_eq_true rfl) dX10_manyNow_63 (fun q_6 cy_7 H hK hP hD hS => ?_)
  have hK : va_K (dC, dI) vwCl [(cy_2, .int), (cy_7, .int)] s := hK
  have hP : va_P (dC, dI) vwCl [(m0, .inr (12, [.int 0, .ref l1, .ref l2, .int 0, .int 0, .int 0, .long s0])), (l2, .inr (1, [.int 0, .ref a0, .int 0])), (q_1, .inl (cy_2, 5, .inl (fun _ => 0))), (r_3, .inr (0, [.int 0, .int (-1), .int 0, .ref l1])), (l1, .inr (1, [.int 0, .ref a0, .int 0])), (q_6, .inl (cy_7, 11, .inl (fun _ => 0)))] H := hP
  have hD : va_D A [(m0, .inr (12, [.int 0, .ref l1, .ref l2, .int 0, .int 0, .int 0, .long s0])), (l2, .inr (1, [.int 0, .ref a0, .int 0])), (q_1, .inl (cy_2, 5, .inl (fun _ => 0))), (r_3, .inr (0, [.int 0, .int (-1), .int 0, .ref l1])), (l1, .inr (1, [.int 0, .ref a0, .int 0])), (q_6, .inl (cy_7, 11, .inl (fun _ => 0)))] := hD
  refine W.widen (k := 3) (n := 20) (Nat.le_of_ble_eq_true rfl) (Nat.le_of_ble_eq_true rfl) ?_
  refine lv_dup hx hb dX10_manyNow_65 rfl ?_
  refine lv_iconst (v := 0) hx hb dX10_manyNow_66 (by decide) ?_
  refine lv_aload_n hx hb dX10_manyNow_67 rfl (lv_at hl 3 rfl) ?_
  refine va_get (D := (dC, dI)) (ci := 12) (v := .ref l1) (C := RX10) (T := TX10) (N := 7) hx hb hts hiX10 hown hK hP 0 rfl rfl 1 (by decide) (hts (.fieldLink RX10 10 "HaltingaleModel" "machines" "Ljava/util/ArrayList;") (by decide +kernel)) (fun _ h9 => h9) rfl dX10_manyNow_68 ?_
  have hPc := hP.sub (ws' := [(l1, .inr (1, [.int 0, .ref a0, .int 0]))]) [4] rfl
  have hDc := hD.sub (ws' := [(l1, .inr (1, [.int 0, .ref a0, .int 0]))]) [4] (by decide) rfl
  have hKc := hK.sub (tys' := []) [] rfl
  have hFc := va_free (wc := [(l1, .inr (1, [.int 0, .ref a0, .int 0]))]) hD hS hA [4] rfl
  have hZc := ((hZ.kept hS.2.1).narrow hFc)
  refine va_calli (va_runV (As := []) (rest := [.int 0, .ref q_6, .ref q_6]) ⟨hx, hb, hml, hown, hts⟩ (c_Jx4a65c_size_8abf5 l hnt dC dI a0 l1 0 a0 0 H.size ) (cwV 0 hts (goodIn_of _ (by decide +kernel)) rfl rfl rfl (by decide +kernel) ⟨Nat.le_of_ble_eq_true rfl, Nat.le_of_ble_eq_true rfl⟩) ⟨fun a U g mk q => by obtain ⟨q0, q1, qP, qK, qD, qZ⟩ := q; exact ⟨q0, q1, qP, va_K.moved (u := U) (U := U.calling g mk a) (Vm.Alike.refl U.vm) qK, qD, qZ.call⟩, va_recv hKc hPc (ci := 1) (q0 := 0) rfl rfl, fun U hU hW => ⟨rfl, by rw [hU], by rw [hU]; exact hPc, va_K.moved hW.alike hKc, hDc.weaken (fun _ _ _ _ => trivial), by rw [hU]; exact hZc.warm hW⟩⟩ rfl rfl hl.1 rfl (lv_room (Nat.le_of_ble_eq_true rfl)) dX10_manyNow_71 ⟨Nat.le_of_ble_eq_true rfl, Nat.le_of_ble_eq_true rfl⟩) hS (fun q _ h => hFc q h) hFc (fun r_8 u t H1 locs ht hvm hw hB hz1 hk1 hS => ?_)
  obtain ⟨hP1, hK1, hD1⟩ := hB
  rw [ht] at hP1
  have hK1 := va_K.moved hvm.symm hK1
  obtain ⟨hP, hD⟩ := va_join (wr := [(m0, .inr (12, [.int 0, .ref l1, .ref l2, .int 0, .int 0, .int 0, .long s0])), (l2, .inr (1, [.int 0, .ref a0, .int 0])), (q_1, .inl (cy_2, 5, .inl (fun _ => 0))), (r_3, .inr (0, [.int 0, .int (-1), .int 0, .ref l1])), (q_6, .inl (cy_7, 11, .inl (fun _ => 0)))]) (w1 := [(l1, .inr (1, [.int 0, .ref a0, .int 0]))]) hP hD [4] [0, 1, 2, 3, 5] rfl rfl (by decide) (by decide) hk1 hFc hP1 hD1
  have hK := (hK.sub (tys' := [(cy_2, .int), (cy_7, .int)]) [0, 1] rfl).app hK1
  generalize H1 = H at hP hS ⊢
  have hP : va_P (dC, dI) vwCl [(m0, .inr (12, [.int 0, .ref l1, .ref l2, .int 0, .int 0, .int 0, .long s0])), (l2, .inr (1, [.int 0, .ref a0, .int 0])), (q_1, .inl (cy_2, 5, .inl (fun _ => 0))), (r_3, .inr (0, [.int 0, .int (-1), .int 0, .ref l1])), (q_6, .inl (cy_7, 11, .inl (fun _ => 0))), (l1, .inr (1, [.int 0, .ref a0, .int 0]))] H := hP
  have hD : va_D A [(m0, .inr (12, [.int 0, .ref l1, .ref l2, .int 0, .int 0, .int 0, .long s0])), (l2, .inr (1, [.int 0, .ref a0, .int 0])), (q_1, .inl (cy_2, 5, .inl (fun _ => 0))), (r_3, .inr (0, [.int 0, .int (-1), .int 0, .ref l1])), (q_6, .inl (cy_7, 11, .inl (fun _ => 0))), (l1, .inr (1, [.int 0, .ref a0, .int 0]))] := hD
  have hK : va_K (dC, dI) vwCl [(cy_2, .int), (cy_7, .int)] s := hK
  refine W.widen (k := 3) (n := 20) (Nat.le_of_ble_eq_true rfl) (Nat.le_of_ble_eq_true rfl) ?_
  obtain rfl : r_8 = 0 := hw
  refine va_iast hx hb hK hP hD hS 4 1 rfl rfl (by unfold vp_in; decide) dX10_manyNow_74 (fun H locs hP hD hS => ?_)
  have hP : va_P (dC, dI) vwCl [(m0, .inr (12, [.int 0, .ref l1, .ref l2, .int 0, .int 0, .int 0, .long s0])), (l2, .inr (1, [.int 0, .ref a0, .int 0])), (q_1, .inl (cy_2, 5, .inl (fun _ => 0))), (r_3, .inr (0, [.int 0, .int (-1), .int 0, .ref l1])), (q_6, .inl (cy_7, 11, .inl (upd (fun _ => 0) ((0 : Int32).toNatClampNeg) 0))), (l1, .inr (1, [.int 0, .ref a0, .int 0]))] H := hP
  have hD : va_D A [(m0, .inr (12, [.int 0, .ref l1, .ref l2, .int 0, .int 0, .int 0, .long s0])), (l2, .inr (1, [.int 0, .ref a0, .int 0])), (q_1, .inl (cy_2, 5, .inl (fun _ => 0))), (r_3, .inr (0, [.int 0, .int (-1), .int 0, .ref l1])), (q_6, .inl (cy_7, 11, .inl (upd (fun _ => 0) ((0 : Int32).toNatClampNeg) 0))), (l1, .inr (1, [.int 0, .ref a0, .int 0]))] := hD
  refine lv_dup hx hb dX10_manyNow_75 rfl ?_
  refine lv_iconst (v := 1) hx hb dX10_manyNow_76 (by decide) ?_
  refine lv_aload_n hx hb dX10_manyNow_77 rfl (lv_at hl 2 rfl) ?_
  refine lv_iconst (v := 0) hx hb dX10_manyNow_78 (by decide) ?_
  refine va_iald hx hb hK hP 2 0 rfl rfl (by unfold vp_in; decide) dX10_manyNow_79 ?_
  refine lv_topi (fun x_10 ex_10 => ?_)
  obtain rfl : x_10 = 0 := ex_10.trans (by decide +kernel)
  refine va_iast hx hb hK hP hD hS 4 1 rfl rfl (by unfold vp_in; decide) dX10_manyNow_80 (fun H locs hP hD hS => ?_)
  have hP : va_P (dC, dI) vwCl [(m0, .inr (12, [.int 0, .ref l1, .ref l2, .int 0, .int 0, .int 0, .long s0])), (l2, .inr (1, [.int 0, .ref a0, .int 0])), (q_1, .inl (cy_2, 5, .inl (fun _ => 0))), (r_3, .inr (0, [.int 0, .int (-1), .int 0, .ref l1])), (q_6, .inl (cy_7, 11, .inl (upd (upd (fun _ => 0) ((0 : Int32).toNatClampNeg) 0) ((1 : Int32).toNatClampNeg) 0))), (l1, .inr (1, [.int 0, .ref a0, .int 0]))] H := hP
  have hD : va_D A [(m0, .inr (12, [.int 0, .ref l1, .ref l2, .int 0, .int 0, .int 0, .long s0])), (l2, .inr (1, [.int 0, .ref a0, .int 0])), (q_1, .inl (cy_2, 5, .inl (fun _ => 0))), (r_3, .inr (0, [.int 0, .int (-1), .int 0, .ref l1])), (q_6, .inl (cy_7, 11, .inl (upd (upd (fun _ => 0) ((0 : Int32).toNatClampNeg) 0) ((1 : Int32).toNatClampNeg) 0))), (l1, .inr (1, [.int 0, .ref a0, .int 0]))] := hD
  refine lv_dup hx hb dX10_manyNow_81 rfl ?_
  refine lv_iconst (v := 2) hx hb dX10_manyNow_82 (by decide) ?_
  refine lv_aload_n hx hb dX10_manyNow_83 rfl (lv_at hl 2 rfl) ?_
  refine lv_iconst (v := 1) hx hb dX10_manyNow_84 (by decide) ?_
  refine va_iald hx hb hK hP 2 0 rfl rfl (by unfold vp_in; decide) dX10_manyNow_85 ?_
  refine lv_topi (fun x_12 ex_12 => ?_)
  obtain rfl : x_12 = 0 := ex_12.trans (by decide +kernel)
  refine va_iast hx hb hK hP hD hS 4 1 rfl rfl (by unfold vp_in; decide) dX10_manyNow_86 (fun H locs hP hD hS => ?_)
  have hP : va_P (dC, dI) vwCl [(m0, .inr (12, [.int 0, .ref l1, .ref l2, .int 0, .int 0, .int 0, .long s0])), (l2, .inr (1, [.int 0, .ref a0, .int 0])), (q_1, .inl (cy_2, 5, .inl (fun _ => 0))), (r_3, .inr (0, [.int 0, .int (-1), .int 0, .ref l1])), (q_6, .inl (cy_7, 11, .inl (upd (upd (upd (fun _ => 0) ((0 : Int32).toNatClampNeg) 0) ((1 : Int32).toNatClampNeg) 0) ((2 : Int32).toNatClampNeg) 0))), (l1, .inr (1, [.int 0, .ref a0, .int 0]))] H := hP
  have hD : va_D A [(m0, .inr (12, [.int 0, .ref l1, .ref l2, .int 0, .int 0, .int 0, .long s0])), (l2, .inr (1, [.int 0, .ref a0, .int 0])), (q_1, .inl (cy_2, 5, .inl (fun _ => 0))), (r_3, .inr (0, [.int 0, .int (-1), .int 0, .ref l1])), (q_6, .inl (cy_7, 11, .inl (upd (upd (upd (fun _ => 0) ((0 : Int32).toNatClampNeg) 0) ((1 : Int32).toNatClampNeg) 0) ((2 : Int32).toNatClampNeg) 0))), (l1, .inr (1, [.int 0, .ref a0, .int 0]))] := hD
  refine lv_dup hx hb dX10_manyNow_87 rfl ?_
  refine lv_iconst (v := 3) hx hb dX10_manyNow_88 (by decide) ?_
  refine lv_aload_n hx hb dX10_manyNow_89 rfl (lv_at hl 2 rfl) ?_
  refine lv_iconst (v := 2) hx hb dX10_manyNow_90 (by decide) ?_
  refine va_iald hx hb hK hP 2 0 rfl rfl (by unfold vp_in; decide) dX10_manyNow_91 ?_
  refine lv_topi (fun x_14 ex_14 => ?_)
  obtain rfl : x_14 = 0 := ex_14.trans (by decide +kernel)
  refine va_iast hx hb hK hP hD hS 4 1 rfl rfl (by unfold vp_in; decide) dX10_manyNow_92 (fun H locs hP hD hS => ?_)
  have hP : va_P (dC, dI) vwCl [(m0, .inr (12, [.int 0, .ref l1, .ref l2, .int 0, .int 0, .int 0, .long s0])), (l2, .inr (1, [.int 0, .ref a0, .int 0])), (q_1, .inl (cy_2, 5, .inl (fun _ => 0))), (r_3, .inr (0, [.int 0, .int (-1), .int 0, .ref l1])), (q_6, .inl (cy_7, 11, .inl (upd (upd (upd (upd (fun _ => 0) ((0 : Int32).toNatClampNeg) 0) ((1 : Int32).toNatClampNeg) 0) ((2 : Int32).toNatClampNeg) 0) ((3 : Int32).toNatClampNeg) 0))), (l1, .inr (1, [.int 0, .ref a0, .int 0]))] H := hP
  have hD : va_D A [(m0, .inr (12, [.int 0, .ref l1, .ref l2, .int 0, .int 0, .int 0, .long s0])), (l2, .inr (1, [.int 0, .ref a0, .int 0])), (q_1, .inl (cy_2, 5, .inl (fun _ => 0))), (r_3, .inr (0, [.int 0, .int (-1), .int 0, .ref l1])), (q_6, .inl (cy_7, 11, .inl (upd (upd (upd (upd (fun _ => 0) ((0 : Int32).toNatClampNeg) 0) ((1 : Int32).toNatClampNeg) 0) ((2 : Int32).toNatClampNeg) 0) ((3 : Int32).toNatClampNeg) 0))), (l1, .inr (1, [.int 0, .ref a0, .int 0]))] := hD
  refine lv_dup hx hb dX10_manyNow_93 rfl ?_
  refine lv_iconst (v := 4) hx hb dX10_manyNow_94 (by decide) ?_
  refine lv_aload_n hx hb dX10_manyNow_95 rfl (lv_at hl 2 rfl) ?_
  refine lv_iconst (v := 3) hx hb dX10_manyNow_96 (by decide) ?_
  refine va_iald hx hb hK hP 2 0 rfl rfl (by unfold vp_in; decide) dX10_manyNow_97 ?_
  refine lv_topi (fun x_16 ex_16 => ?_)
  obtain rfl : x_16 = 0 := ex_16.trans (by decide +kernel)
  refine va_iast hx hb hK hP hD hS 4 1 rfl rfl (by unfold vp_in; decide) dX10_manyNow_98 (fun H locs hP hD hS => ?_)
  have hP : va_P (dC, dI) vwCl [(m0, .inr (12, [.int 0, .ref l1, .ref l2, .int 0, .int 0, .int 0, .long s0])), (l2, .inr (1, [.int 0, .ref a0, .int 0])), (q_1, .inl (cy_2, 5, .inl (fun _ => 0))), (r_3, .inr (0, [.int 0, .int (-1), .int 0, .ref l1])), (q_6, .inl (cy_7, 11, .inl (upd (upd (upd (upd (upd (fun _ => 0) ((0 : Int32).toNatClampNeg) 0) ((1 : Int32).toNatClampNeg) 0) ((2 : Int32).toNatClampNeg) 0) ((3 : Int32).toNatClampNeg) 0) ((4 : Int32).toNatClampNeg) 0))), (l1, .inr (1, [.int 0, .ref a0, .int 0]))] H := hP
  have hD : va_D A [(m0, .inr (12, [.int 0, .ref l1, .ref l2, .int 0, .int 0, .int 0, .long s0])), (l2, .inr (1, [.int 0, .ref a0, .int 0])), (q_1, .inl (cy_2, 5, .inl (fun _ => 0))), (r_3, .inr (0, [.int 0, .int (-1), .int 0, .ref l1])), (q_6, .inl (cy_7, 11, .inl (upd (upd (upd (upd (upd (fun _ => 0) ((0 : Int32).toNatClampNeg) 0) ((1 : Int32).toNatClampNeg) 0) ((2 : Int32).toNatClampNeg) 0) ((3 : Int32).toNatClampNeg) 0) ((4 : Int32).toNatClampNeg) 0))), (l1, .inr (1, [.int 0, .ref a0, .int 0]))] := hD
  refine lv_dup hx hb dX10_manyNow_99 rfl ?_
  refine lv_iconst (v := 5) hx hb dX10_manyNow_100 (by decide) ?_
  refine lv_aload_n hx hb dX10_manyNow_101 rfl (lv_at hl 2 rfl) ?_
  refine lv_iconst (v := 4) hx hb dX10_manyNow_102 (by decide) ?_
  refine va_iald hx hb hK hP 2 0 rfl rfl (by unfold vp_in; decide) dX10_manyNow_103 ?_
  refine lv_topi (fun x_18 ex_18 => ?_)
  obtain rfl : x_18 = 0 := ex_18.trans (by decide +kernel)
  refine va_iast hx hb hK hP hD hS 4 1 rfl rfl (by unfold vp_in; decide) dX10_manyNow_104 (fun H locs hP hD hS => ?_)
  have hP : va_P (dC, dI) vwCl [(m0, .inr (12, [.int 0, .ref l1, .ref l2, .int 0, .int 0, .int 0, .long s0])), (l2, .inr (1, [.int 0, .ref a0, .int 0])), (q_1, .inl (cy_2, 5, .inl (fun _ => 0))), (r_3, .inr (0, [.int 0, .int (-1), .int 0, .ref l1])), (q_6, .inl (cy_7, 11, .inl (upd (upd (upd (upd (upd (upd (fun _ => 0) ((0 : Int32).toNatClampNeg) 0) ((1 : Int32).toNatClampNeg) 0) ((2 : Int32).toNatClampNeg) 0) ((3 : Int32).toNatClampNeg) 0) ((4 : Int32).toNatClampNeg) 0) ((5 : Int32).toNatClampNeg) 0))), (l1, .inr (1, [.int 0, .ref a0, .int 0]))] H := hP
  have hD : va_D A [(m0, .inr (12, [.int 0, .ref l1, .ref l2, .int 0, .int 0, .int 0, .long s0])), (l2, .inr (1, [.int 0, .ref a0, .int 0])), (q_1, .inl (cy_2, 5, .inl (fun _ => 0))), (r_3, .inr (0, [.int 0, .int (-1), .int 0, .ref l1])), (q_6, .inl (cy_7, 11, .inl (upd (upd (upd (upd (upd (upd (fun _ => 0) ((0 : Int32).toNatClampNeg) 0) ((1 : Int32).toNatClampNeg) 0) ((2 : Int32).toNatClampNeg) 0) ((3 : Int32).toNatClampNeg) 0) ((4 : Int32).toNatClampNeg) 0) ((5 : Int32).toNatClampNeg) 0))), (l1, .inr (1, [.int 0, .ref a0, .int 0]))] := hD
  refine lv_dup hx hb dX10_manyNow_105 rfl ?_
  refine lv_bipush (v := 6) hx hb dX10_manyNow_106 (by decide) ?_
  refine lv_aload_n hx hb dX10_manyNow_108 rfl (lv_at hl 3 rfl) ?_
  refine va_get (D := (dC, dI)) (ci := 12) (v := .ref l2) (C := RX10) (T := TX10) (N := 7) hx hb hts hiX10 hown hK hP 0 rfl rfl 2 (by decide) (hts (.fieldLink RX10 16 "HaltingaleModel" "tags" "Ljava/util/ArrayList;") (by decide +kernel)) (fun _ h9 => h9) rfl dX10_manyNow_109 ?_
  have hPc := hP.sub (ws' := [(l2, .inr (1, [.int 0, .ref a0, .int 0]))]) [1] rfl
  have hDc := hD.sub (ws' := [(l2, .inr (1, [.int 0, .ref a0, .int 0]))]) [1] (by decide) rfl
  have hKc := hK.sub (tys' := []) [] rfl
  have hFc := va_free (wc := [(l2, .inr (1, [.int 0, .ref a0, .int 0]))]) hD hS hA [1] rfl
  have hZc := ((hZ.kept hS.2.1).narrow hFc)
  refine va_calli (va_runV (As := []) (rest := [.int 6, .ref q_6, .ref q_6]) ⟨hx, hb, hml, hown, hts⟩ (c_Jx4a65c_size_8abf5 l hnt dC dI a0 l2 0 a0 0 H.size ) (cwV 0 hts (goodIn_of _ (by decide +kernel)) rfl rfl rfl (by decide +kernel) ⟨Nat.le_of_ble_eq_true rfl, Nat.le_of_ble_eq_true rfl⟩) ⟨fun a U g mk q => by obtain ⟨q0, q1, qP, qK, qD, qZ⟩ := q; exact ⟨q0, q1, qP, va_K.moved (u := U) (U := U.calling g mk a) (Vm.Alike.refl U.vm) qK, qD, qZ.call⟩, va_recv hKc hPc (ci := 1) (q0 := 0) rfl rfl, fun U hU hW => ⟨rfl, by rw [hU], by rw [hU]; exact hPc, va_K.moved hW.alike hKc, hDc.weaken (fun _ _ _ _ => trivial), by rw [hU]; exact hZc.warm hW⟩⟩ rfl rfl hl.1 rfl (lv_room (Nat.le_of_ble_eq_true rfl)) dX10_manyNow_112 ⟨Nat.le_of_ble_eq_true rfl, Nat.le_of_ble_eq_true rfl⟩) hS (fun q _ h => hFc q h) hFc (fun r_20 u t H1 locs ht hvm hw hB hz1 hk1 hS => ?_)
  obtain ⟨hP1, hK1, hD1⟩ := hB
  rw [ht] at hP1
  have hK1 := va_K.moved hvm.symm hK1
  obtain ⟨hP, hD⟩ := va_join (wr := [(m0, .inr (12, [.int 0, .ref l1, .ref l2, .int 0, .int 0, .int 0, .long s0])), (q_1, .inl (cy_2, 5, .inl (fun _ => 0))), (r_3, .inr (0, [.int 0, .int (-1), .int 0, .ref l1])), (q_6, .inl (cy_7, 11, .inl (upd (upd (upd (upd (upd (upd (fun _ => 0) ((0 : Int32).toNatClampNeg) 0) ((1 : Int32).toNatClampNeg) 0) ((2 : Int32).toNatClampNeg) 0) ((3 : Int32).toNatClampNeg) 0) ((4 : Int32).toNatClampNeg) 0) ((5 : Int32).toNatClampNeg) 0))), (l1, .inr (1, [.int 0, .ref a0, .int 0]))]) (w1 := [(l2, .inr (1, [.int 0, .ref a0, .int 0]))]) hP hD [1] [0, 2, 3, 4, 5] rfl rfl (by decide) (by decide) hk1 hFc hP1 hD1
  have hK := (hK.sub (tys' := [(cy_2, .int), (cy_7, .int)]) [0, 1] rfl).app hK1
  generalize H1 = H at hP hS ⊢
  have hP : va_P (dC, dI) vwCl [(m0, .inr (12, [.int 0, .ref l1, .ref l2, .int 0, .int 0, .int 0, .long s0])), (q_1, .inl (cy_2, 5, .inl (fun _ => 0))), (r_3, .inr (0, [.int 0, .int (-1), .int 0, .ref l1])), (q_6, .inl (cy_7, 11, .inl (upd (upd (upd (upd (upd (upd (fun _ => 0) ((0 : Int32).toNatClampNeg) 0) ((1 : Int32).toNatClampNeg) 0) ((2 : Int32).toNatClampNeg) 0) ((3 : Int32).toNatClampNeg) 0) ((4 : Int32).toNatClampNeg) 0) ((5 : Int32).toNatClampNeg) 0))), (l1, .inr (1, [.int 0, .ref a0, .int 0])), (l2, .inr (1, [.int 0, .ref a0, .int 0]))] H := hP
  have hD : va_D A [(m0, .inr (12, [.int 0, .ref l1, .ref l2, .int 0, .int 0, .int 0, .long s0])), (q_1, .inl (cy_2, 5, .inl (fun _ => 0))), (r_3, .inr (0, [.int 0, .int (-1), .int 0, .ref l1])), (q_6, .inl (cy_7, 11, .inl (upd (upd (upd (upd (upd (upd (fun _ => 0) ((0 : Int32).toNatClampNeg) 0) ((1 : Int32).toNatClampNeg) 0) ((2 : Int32).toNatClampNeg) 0) ((3 : Int32).toNatClampNeg) 0) ((4 : Int32).toNatClampNeg) 0) ((5 : Int32).toNatClampNeg) 0))), (l1, .inr (1, [.int 0, .ref a0, .int 0])), (l2, .inr (1, [.int 0, .ref a0, .int 0]))] := hD
  have hK : va_K (dC, dI) vwCl [(cy_2, .int), (cy_7, .int)] s := hK
  refine W.widen (k := 3) (n := 20) (Nat.le_of_ble_eq_true rfl) (Nat.le_of_ble_eq_true rfl) ?_
  obtain rfl : r_20 = 0 := hw
  refine va_iast hx hb hK hP hD hS 3 1 rfl rfl (by unfold vp_in; decide) dX10_manyNow_115 (fun H locs hP hD hS => ?_)
  have hP : va_P (dC, dI) vwCl [(m0, .inr (12, [.int 0, .ref l1, .ref l2, .int 0, .int 0, .int 0, .long s0])), (q_1, .inl (cy_2, 5, .inl (fun _ => 0))), (r_3, .inr (0, [.int 0, .int (-1), .int 0, .ref l1])), (q_6, .inl (cy_7, 11, .inl (upd (upd (upd (upd (upd (upd (upd (fun _ => 0) ((0 : Int32).toNatClampNeg) 0) ((1 : Int32).toNatClampNeg) 0) ((2 : Int32).toNatClampNeg) 0) ((3 : Int32).toNatClampNeg) 0) ((4 : Int32).toNatClampNeg) 0) ((5 : Int32).toNatClampNeg) 0) ((6 : Int32).toNatClampNeg) 0))), (l1, .inr (1, [.int 0, .ref a0, .int 0])), (l2, .inr (1, [.int 0, .ref a0, .int 0]))] H := hP
  have hD : va_D A [(m0, .inr (12, [.int 0, .ref l1, .ref l2, .int 0, .int 0, .int 0, .long s0])), (q_1, .inl (cy_2, 5, .inl (fun _ => 0))), (r_3, .inr (0, [.int 0, .int (-1), .int 0, .ref l1])), (q_6, .inl (cy_7, 11, .inl (upd (upd (upd (upd (upd (upd (upd (fun _ => 0) ((0 : Int32).toNatClampNeg) 0) ((1 : Int32).toNatClampNeg) 0) ((2 : Int32).toNatClampNeg) 0) ((3 : Int32).toNatClampNeg) 0) ((4 : Int32).toNatClampNeg) 0) ((5 : Int32).toNatClampNeg) 0) ((6 : Int32).toNatClampNeg) 0))), (l1, .inr (1, [.int 0, .ref a0, .int 0])), (l2, .inr (1, [.int 0, .ref a0, .int 0]))] := hD
  refine lv_dup hx hb dX10_manyNow_116 rfl ?_
  refine lv_bipush (v := 7) hx hb dX10_manyNow_117 (by decide) ?_
  refine lv_aload_n hx hb dX10_manyNow_119 rfl (lv_at hl 3 rfl) ?_
  refine va_get (D := (dC, dI)) (ci := 12) (v := .int 0) (C := RX10) (T := TX10) (N := 7) hx hb hts hiX10 hown hK hP 0 rfl rfl 3 (by decide) (hts (.fieldLink RX10 191 "HaltingaleModel" "given" "I") (by decide +kernel)) (fun _ h9 => h9) rfl dX10_manyNow_120 ?_
  refine va_iast hx hb hK hP hD hS 3 1 rfl rfl (by unfold vp_in; decide) dX10_manyNow_123 (fun H locs hP hD hS => ?_)
  have hP : va_P (dC, dI) vwCl [(m0, .inr (12, [.int 0, .ref l1, .ref l2, .int 0, .int 0, .int 0, .long s0])), (q_1, .inl (cy_2, 5, .inl (fun _ => 0))), (r_3, .inr (0, [.int 0, .int (-1), .int 0, .ref l1])), (q_6, .inl (cy_7, 11, .inl (upd (upd (upd (upd (upd (upd (upd (upd (fun _ => 0) ((0 : Int32).toNatClampNeg) 0) ((1 : Int32).toNatClampNeg) 0) ((2 : Int32).toNatClampNeg) 0) ((3 : Int32).toNatClampNeg) 0) ((4 : Int32).toNatClampNeg) 0) ((5 : Int32).toNatClampNeg) 0) ((6 : Int32).toNatClampNeg) 0) ((7 : Int32).toNatClampNeg) 0))), (l1, .inr (1, [.int 0, .ref a0, .int 0])), (l2, .inr (1, [.int 0, .ref a0, .int 0]))] H := hP
  have hD : va_D A [(m0, .inr (12, [.int 0, .ref l1, .ref l2, .int 0, .int 0, .int 0, .long s0])), (q_1, .inl (cy_2, 5, .inl (fun _ => 0))), (r_3, .inr (0, [.int 0, .int (-1), .int 0, .ref l1])), (q_6, .inl (cy_7, 11, .inl (upd (upd (upd (upd (upd (upd (upd (upd (fun _ => 0) ((0 : Int32).toNatClampNeg) 0) ((1 : Int32).toNatClampNeg) 0) ((2 : Int32).toNatClampNeg) 0) ((3 : Int32).toNatClampNeg) 0) ((4 : Int32).toNatClampNeg) 0) ((5 : Int32).toNatClampNeg) 0) ((6 : Int32).toNatClampNeg) 0) ((7 : Int32).toNatClampNeg) 0))), (l1, .inr (1, [.int 0, .ref a0, .int 0])), (l2, .inr (1, [.int 0, .ref a0, .int 0]))] := hD
  refine lv_dup hx hb dX10_manyNow_124 rfl ?_
  refine lv_bipush (v := 8) hx hb dX10_manyNow_125 (by decide) ?_
  refine lv_aload_n hx hb dX10_manyNow_127 rfl (lv_at hl 3 rfl) ?_
  refine va_get (D := (dC, dI)) (ci := 12) (v := .int 0) (C := RX10) (T := TX10) (N := 7) hx hb hts hiX10 hown hK hP 0 rfl rfl 4 (by decide) (hts (.fieldLink RX10 194 "HaltingaleModel" "taken" "I") (by decide +kernel)) (fun _ h9 => h9) rfl dX10_manyNow_128 ?_
  refine va_iast hx hb hK hP hD hS 3 1 rfl rfl (by unfold vp_in; decide) dX10_manyNow_131 (fun H locs hP hD hS => ?_)
  have hP : va_P (dC, dI) vwCl [(m0, .inr (12, [.int 0, .ref l1, .ref l2, .int 0, .int 0, .int 0, .long s0])), (q_1, .inl (cy_2, 5, .inl (fun _ => 0))), (r_3, .inr (0, [.int 0, .int (-1), .int 0, .ref l1])), (q_6, .inl (cy_7, 11, .inl (upd (upd (upd (upd (upd (upd (upd (upd (upd (fun _ => 0) ((0 : Int32).toNatClampNeg) 0) ((1 : Int32).toNatClampNeg) 0) ((2 : Int32).toNatClampNeg) 0) ((3 : Int32).toNatClampNeg) 0) ((4 : Int32).toNatClampNeg) 0) ((5 : Int32).toNatClampNeg) 0) ((6 : Int32).toNatClampNeg) 0) ((7 : Int32).toNatClampNeg) 0) ((8 : Int32).toNatClampNeg) 0))), (l1, .inr (1, [.int 0, .ref a0, .int 0])), (l2, .inr (1, [.int 0, .ref a0, .int 0]))] H := hP
  have hD : va_D A [(m0, .inr (12, [.int 0, .ref l1, .ref l2, .int 0, .int 0, .int 0, .long s0])), (q_1, .inl (cy_2, 5, .inl (fun _ => 0))), (r_3, .inr (0, [.int 0, .int (-1), .int 0, .ref l1])), (q_6, .inl (cy_7, 11, .inl (upd (upd (upd (upd (upd (upd (upd (upd (upd (fun _ => 0) ((0 : Int32).toNatClampNeg) 0) ((1 : Int32).toNatClampNeg) 0) ((2 : Int32).toNatClampNeg) 0) ((3 : Int32).toNatClampNeg) 0) ((4 : Int32).toNatClampNeg) 0) ((5 : Int32).toNatClampNeg) 0) ((6 : Int32).toNatClampNeg) 0) ((7 : Int32).toNatClampNeg) 0) ((8 : Int32).toNatClampNeg) 0))), (l1, .inr (1, [.int 0, .ref a0, .int 0])), (l2, .inr (1, [.int 0, .ref a0, .int 0]))] := hD
  refine lv_dup hx hb dX10_manyNow_132 rfl ?_
  refine lv_bipush (v := 9) hx hb dX10_manyNow_133 (by decide) ?_
  refine lv_aload_n hx hb dX10_manyNow_135 rfl (lv_at hl 3 rfl) ?_
  refine va_get (D := (dC, dI)) (ci := 12) (v := .int 0) (C := RX10) (T := TX10) (N := 7) hx hb hts hiX10 hown hK hP 0 rfl rfl 5 (by decide) (hts (.fieldLink RX10 67 "HaltingaleModel" "back" "I") (by decide +kernel)) (fun _ h9 => h9) rfl dX10_manyNow_136 ?_
  refine va_iast hx hb hK hP hD hS 3 1 rfl rfl (by unfold vp_in; decide) dX10_manyNow_139 (fun H locs hP hD hS => ?_)
  have hP : va_P (dC, dI) vwCl [(m0, .inr (12, [.int 0, .ref l1, .ref l2, .int 0, .int 0, .int 0, .long s0])), (q_1, .inl (cy_2, 5, .inl (fun _ => 0))), (r_3, .inr (0, [.int 0, .int (-1), .int 0, .ref l1])), (q_6, .inl (cy_7, 11, .inl (upd (upd (upd (upd (upd (upd (upd (upd (upd (upd (fun _ => 0) ((0 : Int32).toNatClampNeg) 0) ((1 : Int32).toNatClampNeg) 0) ((2 : Int32).toNatClampNeg) 0) ((3 : Int32).toNatClampNeg) 0) ((4 : Int32).toNatClampNeg) 0) ((5 : Int32).toNatClampNeg) 0) ((6 : Int32).toNatClampNeg) 0) ((7 : Int32).toNatClampNeg) 0) ((8 : Int32).toNatClampNeg) 0) ((9 : Int32).toNatClampNeg) 0))), (l1, .inr (1, [.int 0, .ref a0, .int 0])), (l2, .inr (1, [.int 0, .ref a0, .int 0]))] H := hP
  have hD : va_D A [(m0, .inr (12, [.int 0, .ref l1, .ref l2, .int 0, .int 0, .int 0, .long s0])), (q_1, .inl (cy_2, 5, .inl (fun _ => 0))), (r_3, .inr (0, [.int 0, .int (-1), .int 0, .ref l1])), (q_6, .inl (cy_7, 11, .inl (upd (upd (upd (upd (upd (upd (upd (upd (upd (upd (fun _ => 0) ((0 : Int32).toNatClampNeg) 0) ((1 : Int32).toNatClampNeg) 0) ((2 : Int32).toNatClampNeg) 0) ((3 : Int32).toNatClampNeg) 0) ((4 : Int32).toNatClampNeg) 0) ((5 : Int32).toNatClampNeg) 0) ((6 : Int32).toNatClampNeg) 0) ((7 : Int32).toNatClampNeg) 0) ((8 : Int32).toNatClampNeg) 0) ((9 : Int32).toNatClampNeg) 0))), (l1, .inr (1, [.int 0, .ref a0, .int 0])), (l2, .inr (1, [.int 0, .ref a0, .int 0]))] := hD
  refine lv_dup hx hb dX10_manyNow_140 rfl ?_
  refine lv_bipush (v := 10) hx hb dX10_manyNow_141 (by decide) ?_
  refine lv_iload_n hx hb dX10_manyNow_143 rfl (lv_at hl 1 rfl) ?_
  refine va_iast hx hb hK hP hD hS 3 1 rfl rfl (by unfold vp_in; decide) dX10_manyNow_144 (fun H locs hP hD hS => ?_)
  have hP : va_P (dC, dI) vwCl [(m0, .inr (12, [.int 0, .ref l1, .ref l2, .int 0, .int 0, .int 0, .long s0])), (q_1, .inl (cy_2, 5, .inl (fun _ => 0))), (r_3, .inr (0, [.int 0, .int (-1), .int 0, .ref l1])), (q_6, .inl (cy_7, 11, .inl (upd (upd (upd (upd (upd (upd (upd (upd (upd (upd (upd (fun _ => 0) ((0 : Int32).toNatClampNeg) 0) ((1 : Int32).toNatClampNeg) 0) ((2 : Int32).toNatClampNeg) 0) ((3 : Int32).toNatClampNeg) 0) ((4 : Int32).toNatClampNeg) 0) ((5 : Int32).toNatClampNeg) 0) ((6 : Int32).toNatClampNeg) 0) ((7 : Int32).toNatClampNeg) 0) ((8 : Int32).toNatClampNeg) 0) ((9 : Int32).toNatClampNeg) 0) ((10 : Int32).toNatClampNeg) 0))), (l1, .inr (1, [.int 0, .ref a0, .int 0])), (l2, .inr (1, [.int 0, .ref a0, .int 0]))] H := hP
  have hD : va_D A [(m0, .inr (12, [.int 0, .ref l1, .ref l2, .int 0, .int 0, .int 0, .long s0])), (q_1, .inl (cy_2, 5, .inl (fun _ => 0))), (r_3, .inr (0, [.int 0, .int (-1), .int 0, .ref l1])), (q_6, .inl (cy_7, 11, .inl (upd (upd (upd (upd (upd (upd (upd (upd (upd (upd (upd (fun _ => 0) ((0 : Int32).toNatClampNeg) 0) ((1 : Int32).toNatClampNeg) 0) ((2 : Int32).toNatClampNeg) 0) ((3 : Int32).toNatClampNeg) 0) ((4 : Int32).toNatClampNeg) 0) ((5 : Int32).toNatClampNeg) 0) ((6 : Int32).toNatClampNeg) 0) ((7 : Int32).toNatClampNeg) 0) ((8 : Int32).toNatClampNeg) 0) ((9 : Int32).toNatClampNeg) 0) ((10 : Int32).toNatClampNeg) 0))), (l1, .inr (1, [.int 0, .ref a0, .int 0])), (l2, .inr (1, [.int 0, .ref a0, .int 0]))] := hD
  refine lv_astore (lv' := [(4, .ref q_6), (3, .int 0), (2, .ref q_1), (0, .ref m0), (1, .int 10)]) hx hb dX10_manyNow_145 hl (by decide) rfl (fun ls hl => ?_)
  refine lv_aload hx hb dX10_manyNow_147 (lv_at hl 0 rfl) ?_
  refine lv_iload_n hx hb dX10_manyNow_149 rfl (lv_at hl 4 rfl) ?_
  refine va_iald hx hb hK hP 3 1 rfl rfl (by unfold vp_in; decide) dX10_manyNow_150 ?_
  refine lv_topi (fun x_26 ex_26 => ?_)
  obtain rfl : x_26 = 0 := ex_26.trans (by decide +kernel)
  have hP9 := hP.sub (ws' := [(m0, .inr (12, [.int 0, .ref l1, .ref l2, .int 0, .int 0, .int 0, .long s0])), (l1, .inr (1, [.int 0, .ref a0, .int 0])), (l2, .inr (1, [.int 0, .ref a0, .int 0]))]) [0, 4, 5] rfl
  have hD9 := hD.sub (ws' := [(m0, .inr (12, [.int 0, .ref l1, .ref l2, .int 0, .int 0, .int 0, .long s0])), (l1, .inr (1, [.int 0, .ref a0, .int 0])), (l2, .inr (1, [.int 0, .ref a0, .int 0]))]) [0, 4, 5] (by decide) rfl
  have hK9 := hK.sub (tys' := []) [] rfl
  refine W.widen (k := 3) (n := 20) (Nat.le_of_ble_eq_true rfl) (Nat.le_of_ble_eq_true rfl) ?_
  exact W.iret (v := 0) hx hb hr (fun t ht hW => ⟨⟨0, (), rfl, rfl, ⟨by rw [ht]; exact hP9, va_K.moved hW.alike hK9, hD9⟩⟩, hS.F ht⟩) hS.2.2 dX10_manyNow_151

def zs_c_X10_many_0 : List Cond := .code yX10_many cX10_many 2 (some .int) :: (([.fieldLink RX10 19 "HaltingaleModel" "thrown" "I", .code yX10_is cX10_is 3 (some .boolean), .methodLink RX10 27 yX10_is, .static yX10_is, .initialized RX10, .code yX10_manyNow cX10_manyNow 6 (some .int), .arrayClass .int, .fieldLink RX10 10 "HaltingaleModel" "machines" "Ljava/util/ArrayList;", .code yJx4a65c_iterator_32c93 cJx4a65c_iterator_32c93 1 (some (.object "java/util/Iterator")), .classLink RJx4a65c 267 RJx35411, .instantiable RJx35411 4, .initialized RJx35411, .code yJx35411_init_45d68 cJx35411_init_45d68 2 none, .fieldLink RJx35411 1 "java/util/ArrayList$Itr" "this$0" "Ljava/util/ArrayList;", .methodLink RJx35411 7 objectInit, .instanceMethod objectInit, .code objectInit ⟨#[0xb1]⟩ 1 none, .fieldLink RJx35411 13 "java/util/ArrayList$Itr" "lastRet" "I", .sameField "java/util/ArrayList" "java/util/AbstractList" "modCount" "I", .fieldLink RJx35411 17 "java/util/ArrayList" "modCount" "I", .fieldLink RJx35411 22 "java/util/ArrayList$Itr" "expectedModCount" "I", .methodLink RJx4a65c 269 yJx35411_init_45d68, .instanceMethod yJx35411_init_45d68, .methodLink RX10 158 yJx4a65c_iterator_32c93, .instanceMethod yJx4a65c_iterator_32c93, .initialized RJx4a65c, .selects RJx4a65c yJx4a65c_iterator_32c93 yJx4a65c_iterator_32c93, .code yJx35411_hasNext_aae02 cJx35411_hasNext_aae02 1 (some .boolean), .fieldLink RJx35411 25 "java/util/ArrayList$Itr" "cursor" "I", .methodLink RX10 162 ⟨"java/util/Iterator", "hasNext", "()Z"⟩, .instanceMethod yJx35411_hasNext_aae02, .selects RJx35411 ⟨"java/util/Iterator", "hasNext", "()Z"⟩ yJx35411_hasNext_aae02, .code yJx4a65c_size_8abf5 cJx4a65c_size_8abf5 1 (some .int), .fieldLink RJx4a65c 48 "java/util/ArrayList" "size" "I", .methodLink RX10 23 yJx4a65c_size_8abf5, .instanceMethod yJx4a65c_size_8abf5, .selects RJx4a65c yJx4a65c_size_8abf5 yJx4a65c_size_8abf5, .fieldLink RX10 16 "HaltingaleModel" "tags" "Ljava/util/ArrayList;", .fieldLink RX10 191 "HaltingaleModel" "given" "I", .fieldLink RX10 194 "HaltingaleModel" "taken" "I", .fieldLink RX10 67 "HaltingaleModel" "back" "I", .methodLink RX10 258 yX10_manyNow, .instanceMethod yX10_manyNow, .selects RX10 yX10_manyNow yX10_manyNow] : List Cond) ++ wsX100 ++ wsJx354110 ++ wsJx4a65c0)
set_option maxHeartbeats 4000000 in
set_option maxRecDepth 100000 in
/-- many of 0 -/
theorem c_X10_many_0 (l : Launch) (hnt : l.stackTraces = false) (dC : Nat → ClassId) (dI : Nat → Nat → Nat) (a0 : Nat) (m0 : Nat) (l1 : Nat) (l2 : Nat) (sz : Nat)  : Met l yX10_many zs_c_X10_many_0 ({ frames := 4, cells := 3, slots := 20, locals := 78 }) (va_Pc [.ref m0, .int 0] (fun U => U.heap.size = sz ∧ va_P (dC, dI) vwCl [(m0, .inr (12, [.int 0, .ref l1, .ref l2, .int 0, .int 0, .int 0, .long 0])), (l1, .inr (1, [.int 0, .ref a0, .int 0])), (l2, .inr (1, [.int 0, .ref a0, .int 0]))] U.heap ∧ va_K (dC, dI) vwCl [] U ∧ va_D (fun _ => True) [(m0, .inr (12, [.int 0, .ref l1, .ref l2, .int 0, .int 0, .int 0, .long 0])), (l1, .inr (1, [.int 0, .ref a0, .int 0])), (l2, .inr (1, [.int 0, .ref a0, .int 0]))] ∧ zB a0 (va_A [(m0, .inr (12, [.int 0, .ref l1, .ref l2, .int 0, .int 0, .int 0, .long 0])), (l1, .inr (1, [.int 0, .ref a0, .int 0])), (l2, .inr (1, [.int 0, .ref a0, .int 0]))] sz) U U.heap)) (va_Qi (fun (r : Int32) (_ : Unit) => r = 0) (fun _ t => va_P (dC, dI) vwCl [(m0, .inr (12, [.int 0, .ref l1, .ref l2, .int 0, .int 0, .int 0, .long 0]))] t.heap ∧ va_K (dC, dI) vwCl [] t ∧ va_D (va_A [(m0, .inr (12, [.int 0, .ref l1, .ref l2, .int 0, .int 0, .int 0, .long 0])), (l1, .inr (1, [.int 0, .ref a0, .int 0])), (l2, .inr (1, [.int 0, .ref a0, .int 0]))] sz) [(m0, .inr (12, [.int 0, .ref l1, .ref l2, .int 0, .int 0, .int 0, .long 0]))]) (va_A [(m0, .inr (12, [.int 0, .ref l1, .ref l2, .int 0, .int 0, .int 0, .long 0])), (l1, .inr (1, [.int 0, .ref a0, .int 0])), (l2, .inr (1, [.int 0, .ref a0, .int 0]))] sz)) 3 20 (va_A [(m0, .inr (12, [.int 0, .ref l1, .ref l2, .int 0, .int 0, .int 0, .long 0])), (l1, .inr (1, [.int 0, .ref a0, .int 0])), (l2, .inr (1, [.int 0, .ref a0, .int 0]))] sz) := by
  refine Met.ofW (cc := cX10_many) (maxL := 2) (ret := (some .int)) (by decide) rfl ?_
  intro p e s m args below meth c s₁ B hml hv
  obtain ⟨rfl, hsz, hP, hK, hD0, hZ⟩ := hv
  have hx := B.exec
  have hb := B.bytes
  have hr := B.returns
  have hts := atoms_spec (ws := zs_c_X10_many_0) B.pre
  have hown : s.vm.findClass RX10 = some m.cls := findClass_of_methodNamed B.named
  have hlocks := B.notSynchronized
  have hiX10 : ∀ w ∈ wsX100, w ∈ zs_c_X10_many_0 := by decide +kernel
  subst hsz
  have hD := hD0.self (sz := s.heap.size)
  generalize hAe : va_A [(m0, .inr (12, [.int 0, .ref l1, .ref l2, .int 0, .int 0, .int 0, .long 0])), (l1, .inr (1, [.int 0, .ref a0, .int 0])), (l2, .inr (1, [.int 0, .ref a0, .int 0]))] s.heap.size = A at hD hZ ⊢
  have hA : ∀ q : Nat, s.heap.size ≤ q → A q := fun q h => by rw [← hAe]; exact Or.inr h
  have hS : va_S A s.heap s.heap [] := va_S.rf
  have hl := lv_entry ([.ref m0, .int 0]) (n := 2) (Nat.le_of_ble_eq_true rfl)
  rw [lg_entry_eq]
  generalize (lg_sl ([.ref m0, .int 0]) ++ List.replicate (2 - (lg_sl ([.ref m0, .int 0])).length) Slot.unset).toArray = ls at hl ⊢
  have hl : lv_has ls 2 [(0, .ref m0), (1, .int 0)] := hl
  refine lv_aload_n hx hb dX10_many_0 rfl (lv_at hl 0 rfl) ?_
  refine lv_iconst (v := 0) hx hb dX10_many_1 (by decide) ?_
  refine va_put (D := (dC, dI)) (ci := 12) (v := .int 0) (ty := .int) (C := RX10) (T := TX10) (N := 7) hx hb hts hiX10 tyX10 tyX10_ok nmX10 hown hK hP hD hS 0 rfl rfl 0 (by decide) (hts (.fieldLink RX10 19 "HaltingaleModel" "thrown" "I") (by decide +kernel)) (fun _ h9 => h9) rfl (by decide +kernel) rfl rfl (Nat.le_of_ble_eq_true rfl) dX10_many_2 (fun H locs hP hD hS => ?_)
  have hP : va_P (dC, dI) vwCl [(m0, .inr (12, [.int 0, .ref l1, .ref l2, .int 0, .int 0, .int 0, .long 0])), (l1, .inr (1, [.int 0, .ref a0, .int 0])), (l2, .inr (1, [.int 0, .ref a0, .int 0]))] H := hP
  have hD : va_D A [(m0, .inr (12, [.int 0, .ref l1, .ref l2, .int 0, .int 0, .int 0, .long 0])), (l1, .inr (1, [.int 0, .ref a0, .int 0])), (l2, .inr (1, [.int 0, .ref a0, .int 0]))] := hD
  refine lv_iload_n hx hb dX10_many_5 rfl (lv_at hl 1 rfl) ?_
  refine lv_iconst (v := 0) hx hb dX10_many_6 (by decide) ?_
  refine lv_bipush (v := 10) hx hb dX10_many_7 (by decide) ?_
  have hPc := hP.sub (ws' := []) [] rfl
  have hDc := hD.sub (ws' := []) [] (by decide) rfl
  have hKc := hK.sub (tys' := []) [] rfl
  have hFc := va_free (wc := []) hD hS hA [] rfl
  have hZc := ((hZ.kept hS.2.1).narrow hFc)
  refine va_calli (va_runS (As := [.int 0, .int 0, .int 10]) (rest := []) ⟨hx, hb, hml, hown, hts⟩ (c_X10_is l hnt dC dI a0 0 0 10 H.size ) (va_cwS 3 hts (goodIn_of _ (by decide +kernel)) rfl rfl rfl (by decide +kernel) ⟨Nat.le_of_ble_eq_true rfl, Nat.le_of_ble_eq_true rfl⟩) ⟨fun a U g mk q => by obtain ⟨q0, q1, qP, qK, qD, qZ⟩ := q; exact ⟨q0, q1, qP, va_K.moved (u := U) (U := U.calling g mk a) (Vm.Alike.refl U.vm) qK, qD, qZ.call⟩, fun U hU hW => ⟨rfl, by rw [hU], by rw [hU]; exact hPc, va_K.moved hW.alike hKc, hDc.weaken (fun _ _ _ _ => trivial), by rw [hU]; exact hZc.warm hW⟩⟩ rfl rfl hl.1 rfl (lv_room (Nat.le_of_ble_eq_true rfl)) dX10_many_9 ⟨Nat.le_of_ble_eq_true rfl, Nat.le_of_ble_eq_true rfl⟩) hS (fun q _ h => hFc q h) hFc (fun r_1 u t H1 locs ht hvm hw hB hz1 hk1 hS => ?_)
  obtain ⟨hP1, hK1, hD1⟩ := hB
  rw [ht] at hP1
  have hK1 := va_K.moved hvm.symm hK1
  obtain ⟨hP, hD⟩ := va_join (wr := [(m0, .inr (12, [.int 0, .ref l1, .ref l2, .int 0, .int 0, .int 0, .long 0])), (l1, .inr (1, [.int 0, .ref a0, .int 0])), (l2, .inr (1, [.int 0, .ref a0, .int 0]))]) (w1 := []) hP hD [] [0, 1, 2] rfl rfl (by decide) (by decide) hk1 hFc hP1 hD1
  have hK := (hK.sub (tys' := []) [] rfl).app hK1
  generalize H1 = H at hP hS ⊢
  have hP : va_P (dC, dI) vwCl [(m0, .inr (12, [.int 0, .ref l1, .ref l2, .int 0, .int 0, .int 0, .long 0])), (l1, .inr (1, [.int 0, .ref a0, .int 0])), (l2, .inr (1, [.int 0, .ref a0, .int 0]))] H := hP
  have hD : va_D A [(m0, .inr (12, [.int 0, .ref l1, .ref l2, .int 0, .int 0, .int 0, .long 0])), (l1, .inr (1, [.int 0, .ref a0, .int 0])), (l2, .inr (1, [.int 0, .ref a0, .int 0]))] := hD
  have hK : va_K (dC, dI) vwCl [] s := hK
  refine W.widen (k := 0) (n := 0) (Nat.le_of_ble_eq_true rfl) (Nat.le_of_ble_eq_true rfl) ?_
  obtain rfl : r_1 = 1 := hw.trans (by decide)
  refine lv_if_eq (tgt := 23) hx hb dX10_many_12 (by decide) (fun c_2 => ?_) (fun c_2 => ?_)
  · (first | exact absurd c_2 (by decide) | exact absurd (by decide) c_2)
  refine lv_aload_n hx hb dX10_many_15 rfl (lv_at hl 0 rfl) ?_
  refine lv_iload_n hx hb dX10_many_16 rfl (lv_at hl 1 rfl) ?_
  have hPc := hP.sub (ws' := [(m0, .inr (12, [.int 0, .ref l1, .ref l2, .int 0, .int 0, .int 0, .long 0])), (l1, .inr (1, [.int 0, .ref a0, .int 0])), (l2, .inr (1, [.int 0, .ref a0, .int 0]))]) [0, 1, 2] rfl
  have hDc := hD.sub (ws' := [(m0, .inr (12, [.int 0, .ref l1, .ref l2, .int 0, .int 0, .int 0, .long 0])), (l1, .inr (1, [.int 0, .ref a0, .int 0])), (l2, .inr (1, [.int 0, .ref a0, .int 0]))]) [0, 1, 2] (by decide) rfl
  have hKc := hK.sub (tys' := []) [] rfl
  have hFc := va_free (wc := [(m0, .inr (12, [.int 0, .ref l1, .ref l2, .int 0, .int 0, .int 0, .long 0])), (l1, .inr (1, [.int 0, .ref a0, .int 0])), (l2, .inr (1, [.int 0, .ref a0, .int 0]))]) hD hS hA [0, 1, 2] rfl
  have hZc := ((hZ.kept hS.2.1).narrow hFc)
  refine va_calli (va_runV (As := [.int 0]) (rest := []) ⟨hx, hb, hml, hown, hts⟩ (c_X10_manyNow_0 l hnt dC dI a0 m0 l1 l2 0 H.size ) (cwV 1 hts (goodIn_of _ (by decide +kernel)) rfl rfl rfl (by decide +kernel) ⟨Nat.le_of_ble_eq_true rfl, Nat.le_of_ble_eq_true rfl⟩) ⟨fun a U g mk q => by obtain ⟨q0, q1, qP, qK, qD, qZ⟩ := q; exact ⟨q0, q1, qP, va_K.moved (u := U) (U := U.calling g mk a) (Vm.Alike.refl U.vm) qK, qD, qZ.call⟩, va_recv hKc hPc (ci := 12) (q0 := 0) rfl rfl, fun U hU hW => ⟨rfl, by rw [hU], by rw [hU]; exact hPc, va_K.moved hW.alike hKc, hDc.weaken (fun _ _ _ _ => trivial), by rw [hU]; exact hZc.warm hW⟩⟩ rfl rfl hl.1 rfl (lv_room (Nat.le_of_ble_eq_true rfl)) dX10_many_17 ⟨Nat.le_of_ble_eq_true rfl, Nat.le_of_ble_eq_true rfl⟩) hS (fun q _ h => hFc q h) hFc (fun r_3 u t H1 locs ht hvm hw hB hz1 hk1 hS => ?_)
  obtain ⟨hP1, hK1, hD1⟩ := hB
  rw [ht] at hP1
  have hK1 := va_K.moved hvm.symm hK1
  obtain ⟨hP, hD⟩ := va_join (wr := []) (w1 := [(m0, .inr (12, [.int 0, .ref l1, .ref l2, .int 0, .int 0, .int 0, .long 0])), (l1, .inr (1, [.int 0, .ref a0, .int 0])), (l2, .inr (1, [.int 0, .ref a0, .int 0]))]) hP hD [0, 1, 2] [] rfl rfl (by decide) (by decide) hk1 hFc hP1 hD1
  have hK := (hK.sub (tys' := []) [] rfl).app hK1
  generalize H1 = H at hP hS ⊢
  have hP : va_P (dC, dI) vwCl [(m0, .inr (12, [.int 0, .ref l1, .ref l2, .int 0, .int 0, .int 0, .long 0])), (l1, .inr (1, [.int 0, .ref a0, .int 0])), (l2, .inr (1, [.int 0, .ref a0, .int 0]))] H := hP
  have hD : va_D A [(m0, .inr (12, [.int 0, .ref l1, .ref l2, .int 0, .int 0, .int 0, .long 0])), (l1, .inr (1, [.int 0, .ref a0, .int 0])), (l2, .inr (1, [.int 0, .ref a0, .int 0]))] := hD
  have hK : va_K (dC, dI) vwCl [] s := hK
  refine W.widen (k := 3) (n := 20) (Nat.le_of_ble_eq_true rfl) (Nat.le_of_ble_eq_true rfl) ?_
  obtain rfl : r_3 = 0 := hw
  refine lv_goto (tgt := 28) hx hb dX10_many_20 (by decide) ?_
  have hP9 := hP.sub (ws' := [(m0, .inr (12, [.int 0, .ref l1, .ref l2, .int 0, .int 0, .int 0, .long 0]))]) [0] rfl
  have hD9 := hD.sub (ws' := [(m0, .inr (12, [.int 0, .ref l1, .ref l2, .int 0, .int 0, .int 0, .long 0]))]) [0] (by decide) rfl
  have hK9 := hK.sub (tys' := []) [] rfl
  refine W.widen (k := 3) (n := 20) (Nat.le_of_ble_eq_true rfl) (Nat.le_of_ble_eq_true rfl) ?_
  exact W.iret (v := 0) hx hb hr (fun t ht hW => ⟨⟨0, (), rfl, rfl, ⟨by rw [ht]; exact hP9, va_K.moved hW.alike hK9, hD9⟩⟩, hS.F ht⟩) hS.2.2 dX10_many_28

def zs_c_X10_many_1 : List Cond := .code yX10_many cX10_many 2 (some .int) :: (([.fieldLink RX10 19 "HaltingaleModel" "thrown" "I", .code yX10_is cX10_is 3 (some .boolean), .methodLink RX10 27 yX10_is, .static yX10_is, .initialized RX10, .code yX10_manyNow cX10_manyNow 6 (some .int), .arrayClass .int, .fieldLink RX10 10 "HaltingaleModel" "machines" "Ljava/util/ArrayList;", .code yJx4a65c_iterator_32c93 cJx4a65c_iterator_32c93 1 (some (.object "java/util/Iterator")), .classLink RJx4a65c 267 RJx35411, .instantiable RJx35411 4, .initialized RJx35411, .code yJx35411_init_45d68 cJx35411_init_45d68 2 none, .fieldLink RJx35411 1 "java/util/ArrayList$Itr" "this$0" "Ljava/util/ArrayList;", .methodLink RJx35411 7 objectInit, .instanceMethod objectInit, .code objectInit ⟨#[0xb1]⟩ 1 none, .fieldLink RJx35411 13 "java/util/ArrayList$Itr" "lastRet" "I", .sameField "java/util/ArrayList" "java/util/AbstractList" "modCount" "I", .fieldLink RJx35411 17 "java/util/ArrayList" "modCount" "I", .fieldLink RJx35411 22 "java/util/ArrayList$Itr" "expectedModCount" "I", .methodLink RJx4a65c 269 yJx35411_init_45d68, .instanceMethod yJx35411_init_45d68, .methodLink RX10 158 yJx4a65c_iterator_32c93, .instanceMethod yJx4a65c_iterator_32c93, .initialized RJx4a65c, .selects RJx4a65c yJx4a65c_iterator_32c93 yJx4a65c_iterator_32c93, .code yJx35411_hasNext_aae02 cJx35411_hasNext_aae02 1 (some .boolean), .fieldLink RJx35411 25 "java/util/ArrayList$Itr" "cursor" "I", .methodLink RX10 162 ⟨"java/util/Iterator", "hasNext", "()Z"⟩, .instanceMethod yJx35411_hasNext_aae02, .selects RJx35411 ⟨"java/util/Iterator", "hasNext", "()Z"⟩ yJx35411_hasNext_aae02, .code yJx4a65c_size_8abf5 cJx4a65c_size_8abf5 1 (some .int), .fieldLink RJx4a65c 48 "java/util/ArrayList" "size" "I", .methodLink RX10 23 yJx4a65c_size_8abf5, .instanceMethod yJx4a65c_size_8abf5, .selects RJx4a65c yJx4a65c_size_8abf5 yJx4a65c_size_8abf5, .fieldLink RX10 16 "HaltingaleModel" "tags" "Ljava/util/ArrayList;", .fieldLink RX10 191 "HaltingaleModel" "given" "I", .fieldLink RX10 194 "HaltingaleModel" "taken" "I", .fieldLink RX10 67 "HaltingaleModel" "back" "I", .methodLink RX10 258 yX10_manyNow, .instanceMethod yX10_manyNow, .selects RX10 yX10_manyNow yX10_manyNow] : List Cond) ++ wsX100 ++ wsJx354110 ++ wsJx4a65c0)
set_option maxHeartbeats 4000000 in
set_option maxRecDepth 100000 in
/-- many of 1 -/
theorem c_X10_many_1 (l : Launch) (hnt : l.stackTraces = false) (dC : Nat → ClassId) (dI : Nat → Nat → Nat) (a0 : Nat) (m0 : Nat) (l1 : Nat) (l2 : Nat) (sz : Nat)  : Met l yX10_many zs_c_X10_many_1 ({ frames := 4, cells := 3, slots := 20, locals := 78 }) (va_Pc [.ref m0, .int 1] (fun U => U.heap.size = sz ∧ va_P (dC, dI) vwCl [(m0, .inr (12, [.int 0, .ref l1, .ref l2, .int 0, .int 0, .int 0, .long 0])), (l1, .inr (1, [.int 0, .ref a0, .int 0])), (l2, .inr (1, [.int 0, .ref a0, .int 0]))] U.heap ∧ va_K (dC, dI) vwCl [] U ∧ va_D (fun _ => True) [(m0, .inr (12, [.int 0, .ref l1, .ref l2, .int 0, .int 0, .int 0, .long 0])), (l1, .inr (1, [.int 0, .ref a0, .int 0])), (l2, .inr (1, [.int 0, .ref a0, .int 0]))] ∧ zB a0 (va_A [(m0, .inr (12, [.int 0, .ref l1, .ref l2, .int 0, .int 0, .int 0, .long 0])), (l1, .inr (1, [.int 0, .ref a0, .int 0])), (l2, .inr (1, [.int 0, .ref a0, .int 0]))] sz) U U.heap)) (va_Qi (fun (r : Int32) (_ : Unit) => r = 0) (fun _ t => va_P (dC, dI) vwCl [(m0, .inr (12, [.int 0, .ref l1, .ref l2, .int 0, .int 0, .int 0, .long 0]))] t.heap ∧ va_K (dC, dI) vwCl [] t ∧ va_D (va_A [(m0, .inr (12, [.int 0, .ref l1, .ref l2, .int 0, .int 0, .int 0, .long 0])), (l1, .inr (1, [.int 0, .ref a0, .int 0])), (l2, .inr (1, [.int 0, .ref a0, .int 0]))] sz) [(m0, .inr (12, [.int 0, .ref l1, .ref l2, .int 0, .int 0, .int 0, .long 0]))]) (va_A [(m0, .inr (12, [.int 0, .ref l1, .ref l2, .int 0, .int 0, .int 0, .long 0])), (l1, .inr (1, [.int 0, .ref a0, .int 0])), (l2, .inr (1, [.int 0, .ref a0, .int 0]))] sz)) 3 20 (va_A [(m0, .inr (12, [.int 0, .ref l1, .ref l2, .int 0, .int 0, .int 0, .long 0])), (l1, .inr (1, [.int 0, .ref a0, .int 0])), (l2, .inr (1, [.int 0, .ref a0, .int 0]))] sz) := by
  refine Met.ofW (cc := cX10_many) (maxL := 2) (ret := (some .int)) (by decide) rfl ?_
  intro p e s m args below meth c s₁ B hml hv
  obtain ⟨rfl, hsz, hP, hK, hD0, hZ⟩ := hv
  have hx := B.exec
  have hb := B.bytes
  have hr := B.returns
  have hts := atoms_spec (ws := zs_c_X10_many_1) B.pre
  have hown : s.vm.findClass RX10 = some m.cls := findClass_of_methodNamed B.named
  have hlocks := B.notSynchronized
  have hiX10 : ∀ w ∈ wsX100, w ∈ zs_c_X10_many_1 := by decide +kernel
  subst hsz
  have hD := hD0.self (sz := s.heap.size)
  generalize hAe : va_A [(m0, .inr (12, [.int 0, .ref l1, .ref l2, .int 0, .int 0, .int 0, .long 0])), (l1, .inr (1, [.int 0, .ref a0, .int 0])), (l2, .inr (1, [.int 0, .ref a0, .int 0]))] s.heap.size = A at hD hZ ⊢
  have hA : ∀ q : Nat, s.heap.size ≤ q → A q := fun q h => by rw [← hAe]; exact Or.inr h
  have hS : va_S A s.heap s.heap [] := va_S.rf
  have hl := lv_entry ([.ref m0, .int 1]) (n := 2) (Nat.le_of_ble_eq_true rfl)
  rw [lg_entry_eq]
  generalize (lg_sl ([.ref m0, .int 1]) ++ List.replicate (2 - (lg_sl ([.ref m0, .int 1])).length) Slot.unset).toArray = ls at hl ⊢
  have hl : lv_has ls 2 [(0, .ref m0), (1, .int 1)] := hl
  refine lv_aload_n hx hb dX10_many_0 rfl (lv_at hl 0 rfl) ?_
  refine lv_iconst (v := 0) hx hb dX10_many_1 (by decide) ?_
  refine va_put (D := (dC, dI)) (ci := 12) (v := .int 0) (ty := .int) (C := RX10) (T := TX10) (N := 7) hx hb hts hiX10 tyX10 tyX10_ok nmX10 hown hK hP hD hS 0 rfl rfl 0 (by decide) (hts (.fieldLink RX10 19 "HaltingaleModel" "thrown" "I") (by decide +kernel)) (fun _ h9 => h9) rfl (by decide +kernel) rfl rfl (Nat.le_of_ble_eq_true rfl) dX10_many_2 (fun H locs hP hD hS => ?_)
  have hP : va_P (dC, dI) vwCl [(m0, .inr (12, [.int 0, .ref l1, .ref l2, .int 0, .int 0, .int 0, .long 0])), (l1, .inr (1, [.int 0, .ref a0, .int 0])), (l2, .inr (1, [.int 0, .ref a0, .int 0]))] H := hP
  have hD : va_D A [(m0, .inr (12, [.int 0, .ref l1, .ref l2, .int 0, .int 0, .int 0, .long 0])), (l1, .inr (1, [.int 0, .ref a0, .int 0])), (l2, .inr (1, [.int 0, .ref a0, .int 0]))] := hD
  refine lv_iload_n hx hb dX10_many_5 rfl (lv_at hl 1 rfl) ?_
  refine lv_iconst (v := 0) hx hb dX10_many_6 (by decide) ?_
  refine lv_bipush (v := 10) hx hb dX10_many_7 (by decide) ?_
  have hPc := hP.sub (ws' := []) [] rfl
  have hDc := hD.sub (ws' := []) [] (by decide) rfl
  have hKc := hK.sub (tys' := []) [] rfl
  have hFc := va_free (wc := []) hD hS hA [] rfl
  have hZc := ((hZ.kept hS.2.1).narrow hFc)
  refine va_calli (va_runS (As := [.int 1, .int 0, .int 10]) (rest := []) ⟨hx, hb, hml, hown, hts⟩ (c_X10_is l hnt dC dI a0 1 0 10 H.size ) (va_cwS 3 hts (goodIn_of _ (by decide +kernel)) rfl rfl rfl (by decide +kernel) ⟨Nat.le_of_ble_eq_true rfl, Nat.le_of_ble_eq_true rfl⟩) ⟨fun a U g mk q => by obtain ⟨q0, q1, qP, qK, qD, qZ⟩ := q; exact ⟨q0, q1, qP, va_K.moved (u := U) (U := U.calling g mk a) (Vm.Alike.refl U.vm) qK, qD, qZ.call⟩, fun U hU hW => ⟨rfl, by rw [hU], by rw [hU]; exact hPc, va_K.moved hW.alike hKc, hDc.weaken (fun _ _ _ _ => trivial), by rw [hU]; exact hZc.warm hW⟩⟩ rfl rfl hl.1 rfl (lv_room (Nat.le_of_ble_eq_true rfl)) dX10_many_9 ⟨Nat.le_of_ble_eq_true rfl, Nat.le_of_ble_eq_true rfl⟩) hS (fun q _ h => hFc q h) hFc (fun r_1 u t H1 locs ht hvm hw hB hz1 hk1 hS => ?_)
  obtain ⟨hP1, hK1, hD1⟩ := hB
  rw [ht] at hP1
  have hK1 := va_K.moved hvm.symm hK1
  obtain ⟨hP, hD⟩ := va_join (wr := [(m0, .inr (12, [.int 0, .ref l1, .ref l2, .int 0, .int 0, .int 0, .long 0])), (l1, .inr (1, [.int 0, .ref a0, .int 0])), (l2, .inr (1, [.int 0, .ref a0, .int 0]))]) (w1 := []) hP hD [] [0, 1, 2] rfl rfl (by decide) (by decide) hk1 hFc hP1 hD1
  have hK := (hK.sub (tys' := []) [] rfl).app hK1
  generalize H1 = H at hP hS ⊢
  have hP : va_P (dC, dI) vwCl [(m0, .inr (12, [.int 0, .ref l1, .ref l2, .int 0, .int 0, .int 0, .long 0])), (l1, .inr (1, [.int 0, .ref a0, .int 0])), (l2, .inr (1, [.int 0, .ref a0, .int 0]))] H := hP
  have hD : va_D A [(m0, .inr (12, [.int 0, .ref l1, .ref l2, .int 0, .int 0, .int 0, .long 0])), (l1, .inr (1, [.int 0, .ref a0, .int 0])), (l2, .inr (1, [.int 0, .ref a0, .int 0]))] := hD
  have hK : va_K (dC, dI) vwCl [] s := hK
  refine W.widen (k := 0) (n := 0) (Nat.le_of_ble_eq_true rfl) (Nat.le_of_ble_eq_true rfl) ?_
  obtain rfl : r_1 = 1 := hw.trans (by decide)
  refine lv_if_eq (tgt := 23) hx hb dX10_many_12 (by decide) (fun c_2 => ?_) (fun c_2 => ?_)
  · (first | exact absurd c_2 (by decide) | exact absurd (by decide) c_2)
  refine lv_aload_n hx hb dX10_many_15 rfl (lv_at hl 0 rfl) ?_
  refine lv_iload_n hx hb dX10_many_16 rfl (lv_at hl 1 rfl) ?_
  have hPc := hP.sub (ws' := [(m0, .inr (12, [.int 0, .ref l1, .ref l2, .int 0, .int 0, .int 0, .long 0])), (l1, .inr (1, [.int 0, .ref a0, .int 0])), (l2, .inr (1, [.int 0, .ref a0, .int 0]))]) [0, 1, 2] rfl
  have hDc := hD.sub (ws' := [(m0, .inr (12, [.int 0, .ref l1, .ref l2, .int 0, .int 0, .int 0, .long 0])), (l1, .inr (1, [.int 0, .ref a0, .int 0])), (l2, .inr (1, [.int 0, .ref a0, .int 0]))]) [0, 1, 2] (by decide) rfl
  have hKc := hK.sub (tys' := []) [] rfl
  have hFc := va_free (wc := [(m0, .inr (12, [.int 0, .ref l1, .ref l2, .int 0, .int 0, .int 0, .long 0])), (l1, .inr (1, [.int 0, .ref a0, .int 0])), (l2, .inr (1, [.int 0, .ref a0, .int 0]))]) hD hS hA [0, 1, 2] rfl
  have hZc := ((hZ.kept hS.2.1).narrow hFc)
  refine va_calli (va_runV (As := [.int 1]) (rest := []) ⟨hx, hb, hml, hown, hts⟩ (c_X10_manyNow_1 l hnt dC dI a0 m0 l1 l2 0 H.size ) (cwV 1 hts (goodIn_of _ (by decide +kernel)) rfl rfl rfl (by decide +kernel) ⟨Nat.le_of_ble_eq_true rfl, Nat.le_of_ble_eq_true rfl⟩) ⟨fun a U g mk q => by obtain ⟨q0, q1, qP, qK, qD, qZ⟩ := q; exact ⟨q0, q1, qP, va_K.moved (u := U) (U := U.calling g mk a) (Vm.Alike.refl U.vm) qK, qD, qZ.call⟩, va_recv hKc hPc (ci := 12) (q0 := 0) rfl rfl, fun U hU hW => ⟨rfl, by rw [hU], by rw [hU]; exact hPc, va_K.moved hW.alike hKc, hDc.weaken (fun _ _ _ _ => trivial), by rw [hU]; exact hZc.warm hW⟩⟩ rfl rfl hl.1 rfl (lv_room (Nat.le_of_ble_eq_true rfl)) dX10_many_17 ⟨Nat.le_of_ble_eq_true rfl, Nat.le_of_ble_eq_true rfl⟩) hS (fun q _ h => hFc q h) hFc (fun r_3 u t H1 locs ht hvm hw hB hz1 hk1 hS => ?_)
  obtain ⟨hP1, hK1, hD1⟩ := hB
  rw [ht] at hP1
  have hK1 := va_K.moved hvm.symm hK1
  obtain ⟨hP, hD⟩ := va_join (wr := []) (w1 := [(m0, .inr (12, [.int 0, .ref l1, .ref l2, .int 0, .int 0, .int 0, .long 0])), (l1, .inr (1, [.int 0, .ref a0, .int 0])), (l2, .inr (1, [.int 0, .ref a0, .int 0]))]) hP hD [0, 1, 2] [] rfl rfl (by decide) (by decide) hk1 hFc hP1 hD1
  have hK := (hK.sub (tys' := []) [] rfl).app hK1
  generalize H1 = H at hP hS ⊢
  have hP : va_P (dC, dI) vwCl [(m0, .inr (12, [.int 0, .ref l1, .ref l2, .int 0, .int 0, .int 0, .long 0])), (l1, .inr (1, [.int 0, .ref a0, .int 0])), (l2, .inr (1, [.int 0, .ref a0, .int 0]))] H := hP
  have hD : va_D A [(m0, .inr (12, [.int 0, .ref l1, .ref l2, .int 0, .int 0, .int 0, .long 0])), (l1, .inr (1, [.int 0, .ref a0, .int 0])), (l2, .inr (1, [.int 0, .ref a0, .int 0]))] := hD
  have hK : va_K (dC, dI) vwCl [] s := hK
  refine W.widen (k := 3) (n := 20) (Nat.le_of_ble_eq_true rfl) (Nat.le_of_ble_eq_true rfl) ?_
  obtain rfl : r_3 = 0 := hw
  refine lv_goto (tgt := 28) hx hb dX10_many_20 (by decide) ?_
  have hP9 := hP.sub (ws' := [(m0, .inr (12, [.int 0, .ref l1, .ref l2, .int 0, .int 0, .int 0, .long 0]))]) [0] rfl
  have hD9 := hD.sub (ws' := [(m0, .inr (12, [.int 0, .ref l1, .ref l2, .int 0, .int 0, .int 0, .long 0]))]) [0] (by decide) rfl
  have hK9 := hK.sub (tys' := []) [] rfl
  refine W.widen (k := 3) (n := 20) (Nat.le_of_ble_eq_true rfl) (Nat.le_of_ble_eq_true rfl) ?_
  exact W.iret (v := 0) hx hb hr (fun t ht hW => ⟨⟨0, (), rfl, rfl, ⟨by rw [ht]; exact hP9, va_K.moved hW.alike hK9, hD9⟩⟩, hS.F ht⟩) hS.2.2 dX10_many_28

def zs_c_X10_many_2 : List Cond := .code yX10_many cX10_many 2 (some .int) :: (([.fieldLink RX10 19 "HaltingaleModel" "thrown" "I", .code yX10_is cX10_is 3 (some .boolean), .methodLink RX10 27 yX10_is, .static yX10_is, .initialized RX10, .code yX10_manyNow cX10_manyNow 6 (some .int), .arrayClass .int, .fieldLink RX10 10 "HaltingaleModel" "machines" "Ljava/util/ArrayList;", .code yJx4a65c_iterator_32c93 cJx4a65c_iterator_32c93 1 (some (.object "java/util/Iterator")), .classLink RJx4a65c 267 RJx35411, .instantiable RJx35411 4, .initialized RJx35411, .code yJx35411_init_45d68 cJx35411_init_45d68 2 none, .fieldLink RJx35411 1 "java/util/ArrayList$Itr" "this$0" "Ljava/util/ArrayList;", .methodLink RJx35411 7 objectInit, .instanceMethod objectInit, .code objectInit ⟨#[0xb1]⟩ 1 none, .fieldLink RJx35411 13 "java/util/ArrayList$Itr" "lastRet" "I", .sameField "java/util/ArrayList" "java/util/AbstractList" "modCount" "I", .fieldLink RJx35411 17 "java/util/ArrayList" "modCount" "I", .fieldLink RJx35411 22 "java/util/ArrayList$Itr" "expectedModCount" "I", .methodLink RJx4a65c 269 yJx35411_init_45d68, .instanceMethod yJx35411_init_45d68, .methodLink RX10 158 yJx4a65c_iterator_32c93, .instanceMethod yJx4a65c_iterator_32c93, .initialized RJx4a65c, .selects RJx4a65c yJx4a65c_iterator_32c93 yJx4a65c_iterator_32c93, .code yJx35411_hasNext_aae02 cJx35411_hasNext_aae02 1 (some .boolean), .fieldLink RJx35411 25 "java/util/ArrayList$Itr" "cursor" "I", .methodLink RX10 162 ⟨"java/util/Iterator", "hasNext", "()Z"⟩, .instanceMethod yJx35411_hasNext_aae02, .selects RJx35411 ⟨"java/util/Iterator", "hasNext", "()Z"⟩ yJx35411_hasNext_aae02, .code yJx4a65c_size_8abf5 cJx4a65c_size_8abf5 1 (some .int), .fieldLink RJx4a65c 48 "java/util/ArrayList" "size" "I", .methodLink RX10 23 yJx4a65c_size_8abf5, .instanceMethod yJx4a65c_size_8abf5, .selects RJx4a65c yJx4a65c_size_8abf5 yJx4a65c_size_8abf5, .fieldLink RX10 16 "HaltingaleModel" "tags" "Ljava/util/ArrayList;", .fieldLink RX10 191 "HaltingaleModel" "given" "I", .fieldLink RX10 194 "HaltingaleModel" "taken" "I", .fieldLink RX10 67 "HaltingaleModel" "back" "I", .methodLink RX10 258 yX10_manyNow, .instanceMethod yX10_manyNow, .selects RX10 yX10_manyNow yX10_manyNow] : List Cond) ++ wsX100 ++ wsJx354110 ++ wsJx4a65c0)
set_option maxHeartbeats 4000000 in
set_option maxRecDepth 100000 in
/-- many of 2 -/
theorem c_X10_many_2 (l : Launch) (hnt : l.stackTraces = false) (dC : Nat → ClassId) (dI : Nat → Nat → Nat) (a0 : Nat) (m0 : Nat) (l1 : Nat) (l2 : Nat) (sz : Nat)  : Met l yX10_many zs_c_X10_many_2 ({ frames := 4, cells := 3, slots := 20, locals := 78 }) (va_Pc [.ref m0, .int 2] (fun U => U.heap.size = sz ∧ va_P (dC, dI) vwCl [(m0, .inr (12, [.int 0, .ref l1, .ref l2, .int 0, .int 0, .int 0, .long 0])), (l1, .inr (1, [.int 0, .ref a0, .int 0])), (l2, .inr (1, [.int 0, .ref a0, .int 0]))] U.heap ∧ va_K (dC, dI) vwCl [] U ∧ va_D (fun _ => True) [(m0, .inr (12, [.int 0, .ref l1, .ref l2, .int 0, .int 0, .int 0, .long 0])), (l1, .inr (1, [.int 0, .ref a0, .int 0])), (l2, .inr (1, [.int 0, .ref a0, .int 0]))] ∧ zB a0 (va_A [(m0, .inr (12, [.int 0, .ref l1, .ref l2, .int 0, .int 0, .int 0, .long 0])), (l1, .inr (1, [.int 0, .ref a0, .int 0])), (l2, .inr (1, [.int 0, .ref a0, .int 0]))] sz) U U.heap)) (va_Qi (fun (r : Int32) (_ : Unit) => r = 0) (fun _ t => va_P (dC, dI) vwCl [(m0, .inr (12, [.int 0, .ref l1, .ref l2, .int 0, .int 0, .int 0, .long 0]))] t.heap ∧ va_K (dC, dI) vwCl [] t ∧ va_D (va_A [(m0, .inr (12, [.int 0, .ref l1, .ref l2, .int 0, .int 0, .int 0, .long 0])), (l1, .inr (1, [.int 0, .ref a0, .int 0])), (l2, .inr (1, [.int 0, .ref a0, .int 0]))] sz) [(m0, .inr (12, [.int 0, .ref l1, .ref l2, .int 0, .int 0, .int 0, .long 0]))]) (va_A [(m0, .inr (12, [.int 0, .ref l1, .ref l2, .int 0, .int 0, .int 0, .long 0])), (l1, .inr (1, [.int 0, .ref a0, .int 0])), (l2, .inr (1, [.int 0, .ref a0, .int 0]))] sz)) 3 20 (va_A [(m0, .inr (12, [.int 0, .ref l1, .ref l2, .int 0, .int 0, .int 0, .long 0])), (l1, .inr (1, [.int 0, .ref a0, .int 0])), (l2, .inr (1, [.int 0, .ref a0, .int 0]))] sz) := by
  refine Met.ofW (cc := cX10_many) (maxL := 2) (ret := (some .int)) (by decide) rfl ?_
  intro p e s m args below meth c s₁ B hml hv
  obtain ⟨rfl, hsz, hP, hK, hD0, hZ⟩ := hv
  have hx := B.exec
  have hb := B.bytes
  have hr := B.returns
  have hts := atoms_spec (ws := zs_c_X10_many_2) B.pre
  have hown : s.vm.findClass RX10 = some m.cls := findClass_of_methodNamed B.named
  have hlocks := B.notSynchronized
  have hiX10 : ∀ w ∈ wsX100, w ∈ zs_c_X10_many_2 := by decide +kernel
  subst hsz
  have hD := hD0.self (sz := s.heap.size)
  generalize hAe : va_A [(m0, .inr (12, [.int 0, .ref l1, .ref l2, .int 0, .int 0, .int 0, .long 0])), (l1, .inr (1, [.int 0, .ref a0, .int 0])), (l2, .inr (1, [.int 0, .ref a0, .int 0]))] s.heap.size = A at hD hZ ⊢
  have hA : ∀ q : Nat, s.heap.size ≤ q → A q := fun q h => by rw [← hAe]; exact Or.inr h
  have hS : va_S A s.heap s.heap [] := va_S.rf
  have hl := lv_entry ([.ref m0, .int 2]) (n := 2) (Nat.le_of_ble_eq_true rfl)
  rw [lg_entry_eq]
  generalize (lg_sl ([.ref m0, .int 2]) ++ List.replicate (2 - (lg_sl ([.ref m0, .int 2])).length) Slot.unset).toArray = ls at hl ⊢
  have hl : lv_has ls 2 [(0, .ref m0), (1, .int 2)] := hl
  refine lv_aload_n hx hb dX10_many_0 rfl (lv_at hl 0 rfl) ?_
  refine lv_iconst (v := 0) hx hb dX10_many_1 (by decide) ?_
  refine va_put (D := (dC, dI)) (ci := 12) (v := .int 0) (ty := .int) (C := RX10) (T := TX10) (N := 7) hx hb hts hiX10 tyX10 tyX10_ok nmX10 hown hK hP hD hS 0 rfl rfl 0 (by decide) (hts (.fieldLink RX10 19 "HaltingaleModel" "thrown" "I") (by decide +kernel)) (fun _ h9 => h9) rfl (by decide +kernel) rfl rfl (Nat.le_of_ble_eq_true rfl) dX10_many_2 (fun H locs hP hD hS => ?_)
  have hP : va_P (dC, dI) vwCl [(m0, .inr (12, [.int 0, .ref l1, .ref l2, .int 0, .int 0, .int 0, .long 0])), (l1, .inr (1, [.int 0, .ref a0, .int 0])), (l2, .inr (1, [.int 0, .ref a0, .int 0]))] H := hP
  have hD : va_D A [(m0, .inr (12, [.int 0, .ref l1, .ref l2, .int 0, .int 0, .int 0, .long 0])), (l1, .inr (1, [.int 0, .ref a0, .int 0])), (l2, .inr (1, [.int 0, .ref a0, .int 0]))] := hD
  refine lv_iload_n hx hb dX10_many_5 rfl (lv_at hl 1 rfl) ?_
  refine lv_iconst (v := 0) hx hb dX10_many_6 (by decide) ?_
  refine lv_bipush (v := 10) hx hb dX10_many_7 (by decide) ?_
  have hPc := hP.sub (ws' := []) [] rfl
  have hDc := hD.sub (ws' := []) [] (by decide) rfl
  have hKc := hK.sub (tys' := []) [] rfl
  have hFc := va_free (wc := []) hD hS hA [] rfl
  have hZc := ((hZ.kept hS.2.1).narrow hFc)
  refine va_calli (va_runS (As := [.int 2, .int 0, .int 10]) (rest := []) ⟨hx, hb, hml, hown, hts⟩ (c_X10_is l hnt dC dI a0 2 0 10 H.size ) (va_cwS 3 hts (goodIn_of _ (by decide +kernel)) rfl rfl rfl (by decide +kernel) ⟨Nat.le_of_ble_eq_true rfl, Nat.le_of_ble_eq_true rfl⟩) ⟨fun a U g mk q => by obtain ⟨q0, q1, qP, qK, qD, qZ⟩ := q; exact ⟨q0, q1, qP, va_K.moved (u := U) (U := U.calling g mk a) (Vm.Alike.refl U.vm) qK, qD, qZ.call⟩, fun U hU hW => ⟨rfl, by rw [hU], by rw [hU]; exact hPc, va_K.moved hW.alike hKc, hDc.weaken (fun _ _ _ _ => trivial), by rw [hU]; exact hZc.warm hW⟩⟩ rfl rfl hl.1 rfl (lv_room (Nat.le_of_ble_eq_true rfl)) dX10_many_9 ⟨Nat.le_of_ble_eq_true rfl, Nat.le_of_ble_eq_true rfl⟩) hS (fun q _ h => hFc q h) hFc (fun r_1 u t H1 locs ht hvm hw hB hz1 hk1 hS => ?_)
  obtain ⟨hP1, hK1, hD1⟩ := hB
  rw [ht] at hP1
  have hK1 := va_K.moved hvm.symm hK1
  obtain ⟨hP, hD⟩ := va_join (wr := [(m0, .inr (12, [.int 0, .ref l1, .ref l2, .int 0, .int 0, .int 0, .long 0])), (l1, .inr (1, [.int 0, .ref a0, .int 0])), (l2, .inr (1, [.int 0, .ref a0, .int 0]))]) (w1 := []) hP hD [] [0, 1, 2] rfl rfl (by decide) (by decide) hk1 hFc hP1 hD1
  have hK := (hK.sub (tys' := []) [] rfl).app hK1
  generalize H1 = H at hP hS ⊢
  have hP : va_P (dC, dI) vwCl [(m0, .inr (12, [.int 0, .ref l1, .ref l2, .int 0, .int 0, .int 0, .long 0])), (l1, .inr (1, [.int 0, .ref a0, .int 0])), (l2, .inr (1, [.int 0, .ref a0, .int 0]))] H := hP
  have hD : va_D A [(m0, .inr (12, [.int 0, .ref l1, .ref l2, .int 0, .int 0, .int 0, .long 0])), (l1, .inr (1, [.int 0, .ref a0, .int 0])), (l2, .inr (1, [.int 0, .ref a0, .int 0]))] := hD
  have hK : va_K (dC, dI) vwCl [] s := hK
  refine W.widen (k := 0) (n := 0) (Nat.le_of_ble_eq_true rfl) (Nat.le_of_ble_eq_true rfl) ?_
  obtain rfl : r_1 = 1 := hw.trans (by decide)
  refine lv_if_eq (tgt := 23) hx hb dX10_many_12 (by decide) (fun c_2 => ?_) (fun c_2 => ?_)
  · (first | exact absurd c_2 (by decide) | exact absurd (by decide) c_2)
  refine lv_aload_n hx hb dX10_many_15 rfl (lv_at hl 0 rfl) ?_
  refine lv_iload_n hx hb dX10_many_16 rfl (lv_at hl 1 rfl) ?_
  have hPc := hP.sub (ws' := [(m0, .inr (12, [.int 0, .ref l1, .ref l2, .int 0, .int 0, .int 0, .long 0])), (l1, .inr (1, [.int 0, .ref a0, .int 0])), (l2, .inr (1, [.int 0, .ref a0, .int 0]))]) [0, 1, 2] rfl
  have hDc := hD.sub (ws' := [(m0, .inr (12, [.int 0, .ref l1, .ref l2, .int 0, .int 0, .int 0, .long 0])), (l1, .inr (1, [.int 0, .ref a0, .int 0])), (l2, .inr (1, [.int 0, .ref a0, .int 0]))]) [0, 1, 2] (by decide) rfl
  have hKc := hK.sub (tys' := []) [] rfl
  have hFc := va_free (wc := [(m0, .inr (12, [.int 0, .ref l1, .ref l2, .int 0, .int 0, .int 0, .long 0])), (l1, .inr (1, [.int 0, .ref a0, .int 0])), (l2, .inr (1, [.int 0, .ref a0, .int 0]))]) hD hS hA [0, 1, 2] rfl
  have hZc := ((hZ.kept hS.2.1).narrow hFc)
  refine va_calli (va_runV (As := [.int 2]) (rest := []) ⟨hx, hb, hml, hown, hts⟩ (c_X10_manyNow_2 l hnt dC dI a0 m0 l1 l2 0 H.size ) (cwV 1 hts (goodIn_of _ (by decide +kernel)) rfl rfl rfl (by decide +kernel) ⟨Nat.le_of_ble_eq_true rfl, Nat.le_of_ble_eq_true rfl⟩) ⟨fun a U g mk q => by obtain ⟨q0, q1, qP, qK, qD, qZ⟩ := q; exact ⟨q0, q1, qP, va_K.moved (u := U) (U := U.calling g mk a) (Vm.Alike.refl U.vm) qK, qD, qZ.call⟩, va_recv hKc hPc (ci := 12) (q0 := 0) rfl rfl, fun U hU hW => ⟨rfl, by rw [hU], by rw [hU]; exact hPc, va_K.moved hW.alike hKc, hDc.weaken (fun _ _ _ _ => trivial), by rw [hU]; exact hZc.warm hW⟩⟩ rfl rfl hl.1 rfl (lv_room (Nat.le_of_ble_eq_true rfl)) dX10_many_17 ⟨Nat.le_of_ble_eq_true rfl, Nat.le_of_ble_eq_true rfl⟩) hS (fun q _ h => hFc q h) hFc (fun r_3 u t H1 locs ht hvm hw hB hz1 hk1 hS => ?_)
  obtain ⟨hP1, hK1, hD1⟩ := hB
  rw [ht] at hP1
  have hK1 := va_K.moved hvm.symm hK1
  obtain ⟨hP, hD⟩ := va_join (wr := []) (w1 := [(m0, .inr (12, [.int 0, .ref l1, .ref l2, .int 0, .int 0, .int 0, .long 0])), (l1, .inr (1, [.int 0, .ref a0, .int 0])), (l2, .inr (1, [.int 0, .ref a0, .int 0]))]) hP hD [0, 1, 2] [] rfl rfl (by decide) (by decide) hk1 hFc hP1 hD1
  have hK := (hK.sub (tys' := []) [] rfl).app hK1
  generalize H1 = H at hP hS ⊢
  have hP : va_P (dC, dI) vwCl [(m0, .inr (12, [.int 0, .ref l1, .ref l2, .int 0, .int 0, .int 0, .long 0])), (l1, .inr (1, [.int 0, .ref a0, .int 0])), (l2, .inr (1, [.int 0, .ref a0, .int 0]))] H := hP
  have hD : va_D A [(m0, .inr (12, [.int 0, .ref l1, .ref l2, .int 0, .int 0, .int 0, .long 0])), (l1, .inr (1, [.int 0, .ref a0, .int 0])), (l2, .inr (1, [.int 0, .ref a0, .int 0]))] := hD
  have hK : va_K (dC, dI) vwCl [] s := hK
  refine W.widen (k := 3) (n := 20) (Nat.le_of_ble_eq_true rfl) (Nat.le_of_ble_eq_true rfl) ?_
  obtain rfl : r_3 = 0 := hw
  refine lv_goto (tgt := 28) hx hb dX10_many_20 (by decide) ?_
  have hP9 := hP.sub (ws' := [(m0, .inr (12, [.int 0, .ref l1, .ref l2, .int 0, .int 0, .int 0, .long 0]))]) [0] rfl
  have hD9 := hD.sub (ws' := [(m0, .inr (12, [.int 0, .ref l1, .ref l2, .int 0, .int 0, .int 0, .long 0]))]) [0] (by decide) rfl
  have hK9 := hK.sub (tys' := []) [] rfl
  refine W.widen (k := 3) (n := 20) (Nat.le_of_ble_eq_true rfl) (Nat.le_of_ble_eq_true rfl) ?_
  exact W.iret (v := 0) hx hb hr (fun t ht hW => ⟨⟨0, (), rfl, rfl, ⟨by rw [ht]; exact hP9, va_K.moved hW.alike hK9, hD9⟩⟩, hS.F ht⟩) hS.2.2 dX10_many_28

def zs_c_X10_many_3 : List Cond := .code yX10_many cX10_many 2 (some .int) :: (([.fieldLink RX10 19 "HaltingaleModel" "thrown" "I", .code yX10_is cX10_is 3 (some .boolean), .methodLink RX10 27 yX10_is, .static yX10_is, .initialized RX10, .code yX10_manyNow cX10_manyNow 6 (some .int), .arrayClass .int, .fieldLink RX10 10 "HaltingaleModel" "machines" "Ljava/util/ArrayList;", .code yJx4a65c_iterator_32c93 cJx4a65c_iterator_32c93 1 (some (.object "java/util/Iterator")), .classLink RJx4a65c 267 RJx35411, .instantiable RJx35411 4, .initialized RJx35411, .code yJx35411_init_45d68 cJx35411_init_45d68 2 none, .fieldLink RJx35411 1 "java/util/ArrayList$Itr" "this$0" "Ljava/util/ArrayList;", .methodLink RJx35411 7 objectInit, .instanceMethod objectInit, .code objectInit ⟨#[0xb1]⟩ 1 none, .fieldLink RJx35411 13 "java/util/ArrayList$Itr" "lastRet" "I", .sameField "java/util/ArrayList" "java/util/AbstractList" "modCount" "I", .fieldLink RJx35411 17 "java/util/ArrayList" "modCount" "I", .fieldLink RJx35411 22 "java/util/ArrayList$Itr" "expectedModCount" "I", .methodLink RJx4a65c 269 yJx35411_init_45d68, .instanceMethod yJx35411_init_45d68, .methodLink RX10 158 yJx4a65c_iterator_32c93, .instanceMethod yJx4a65c_iterator_32c93, .initialized RJx4a65c, .selects RJx4a65c yJx4a65c_iterator_32c93 yJx4a65c_iterator_32c93, .code yJx35411_hasNext_aae02 cJx35411_hasNext_aae02 1 (some .boolean), .fieldLink RJx35411 25 "java/util/ArrayList$Itr" "cursor" "I", .methodLink RX10 162 ⟨"java/util/Iterator", "hasNext", "()Z"⟩, .instanceMethod yJx35411_hasNext_aae02, .selects RJx35411 ⟨"java/util/Iterator", "hasNext", "()Z"⟩ yJx35411_hasNext_aae02, .code yJx4a65c_size_8abf5 cJx4a65c_size_8abf5 1 (some .int), .fieldLink RJx4a65c 48 "java/util/ArrayList" "size" "I", .methodLink RX10 23 yJx4a65c_size_8abf5, .instanceMethod yJx4a65c_size_8abf5, .selects RJx4a65c yJx4a65c_size_8abf5 yJx4a65c_size_8abf5, .fieldLink RX10 16 "HaltingaleModel" "tags" "Ljava/util/ArrayList;", .fieldLink RX10 191 "HaltingaleModel" "given" "I", .fieldLink RX10 194 "HaltingaleModel" "taken" "I", .fieldLink RX10 67 "HaltingaleModel" "back" "I", .methodLink RX10 258 yX10_manyNow, .instanceMethod yX10_manyNow, .selects RX10 yX10_manyNow yX10_manyNow] : List Cond) ++ wsX100 ++ wsJx354110 ++ wsJx4a65c0)
set_option maxHeartbeats 4000000 in
set_option maxRecDepth 100000 in
/-- many of 3 -/
theorem c_X10_many_3 (l : Launch) (hnt : l.stackTraces = false) (dC : Nat → ClassId) (dI : Nat → Nat → Nat) (a0 : Nat) (m0 : Nat) (l1 : Nat) (l2 : Nat) (sz : Nat)  : Met l yX10_many zs_c_X10_many_3 ({ frames := 4, cells := 3, slots := 20, locals := 78 }) (va_Pc [.ref m0, .int 3] (fun U => U.heap.size = sz ∧ va_P (dC, dI) vwCl [(m0, .inr (12, [.int 0, .ref l1, .ref l2, .int 0, .int 0, .int 0, .long 0])), (l1, .inr (1, [.int 0, .ref a0, .int 0])), (l2, .inr (1, [.int 0, .ref a0, .int 0]))] U.heap ∧ va_K (dC, dI) vwCl [] U ∧ va_D (fun _ => True) [(m0, .inr (12, [.int 0, .ref l1, .ref l2, .int 0, .int 0, .int 0, .long 0])), (l1, .inr (1, [.int 0, .ref a0, .int 0])), (l2, .inr (1, [.int 0, .ref a0, .int 0]))] ∧ zB a0 (va_A [(m0, .inr (12, [.int 0, .ref l1, .ref l2, .int 0, .int 0, .int 0, .long 0])), (l1, .inr (1, [.int 0, .ref a0, .int 0])), (l2, .inr (1, [.int 0, .ref a0, .int 0]))] sz) U U.heap)) (va_Qi (fun (r : Int32) (_ : Unit) => r = 0) (fun _ t => va_P (dC, dI) vwCl [(m0, .inr (12, [.int 0, .ref l1, .ref l2, .int 0, .int 0, .int 0, .long 0]))] t.heap ∧ va_K (dC, dI) vwCl [] t ∧ va_D (va_A [(m0, .inr (12, [.int 0, .ref l1, .ref l2, .int 0, .int 0, .int 0, .long 0])), (l1, .inr (1, [.int 0, .ref a0, .int 0])), (l2, .inr (1, [.int 0, .ref a0, .int 0]))] sz) [(m0, .inr (12, [.int 0, .ref l1, .ref l2, .int 0, .int 0, .int 0, .long 0]))]) (va_A [(m0, .inr (12, [.int 0, .ref l1, .ref l2, .int 0, .int 0, .int 0, .long 0])), (l1, .inr (1, [.int 0, .ref a0, .int 0])), (l2, .inr (1, [.int 0, .ref a0, .int 0]))] sz)) 3 20 (va_A [(m0, .inr (12, [.int 0, .ref l1, .ref l2, .int 0, .int 0, .int 0, .long 0])), (l1, .inr (1, [.int 0, .ref a0, .int 0])), (l2, .inr (1, [.int 0, .ref a0, .int 0]))] sz) := by
  refine Met.ofW (cc := cX10_many) (maxL := 2) (ret := (some .int)) (by decide) rfl ?_
  intro p e s m args below meth c s₁ B hml hv
  obtain ⟨rfl, hsz, hP, hK, hD0, hZ⟩ := hv
  have hx := B.exec
  have hb := B.bytes
  have hr := B.returns
  have hts := atoms_spec (ws := zs_c_X10_many_3) B.pre
  have hown : s.vm.findClass RX10 = some m.cls := findClass_of_methodNamed B.named
  have hlocks := B.notSynchronized
  have hiX10 : ∀ w ∈ wsX100, w ∈ zs_c_X10_many_3 := by decide +kernel
  subst hsz
  have hD := hD0.self (sz := s.heap.size)
  generalize hAe : va_A [(m0, .inr (12, [.int 0, .ref l1, .ref l2, .int 0, .int 0, .int 0, .long 0])), (l1, .inr (1, [.int 0, .ref a0, .int 0])), (l2, .inr (1, [.int 0, .ref a0, .int 0]))] s.heap.size = A at hD hZ ⊢
  have hA : ∀ q : Nat, s.heap.size ≤ q → A q := fun q h => by rw [← hAe]; exact Or.inr h
  have hS : va_S A s.heap s.heap [] := va_S.rf
  have hl := lv_entry ([.ref m0, .int 3]) (n := 2) (Nat.le_of_ble_eq_true rfl)
  rw [lg_entry_eq]
  generalize (lg_sl ([.ref m0, .int 3]) ++ List.replicate (2 - (lg_sl ([.ref m0, .int 3])).length) Slot.unset).toArray = ls at hl ⊢
  have hl : lv_has ls 2 [(0, .ref m0), (1, .int 3)] := hl
  refine lv_aload_n hx hb dX10_many_0 rfl (lv_at hl 0 rfl) ?_
  refine lv_iconst (v := 0) hx hb dX10_many_1 (by decide) ?_
  refine va_put (D := (dC, dI)) (ci := 12) (v := .int 0) (ty := .int) (C := RX10) (T := TX10) (N := 7) hx hb hts hiX10 tyX10 tyX10_ok nmX10 hown hK hP hD hS 0 rfl rfl 0 (by decide) (hts (.fieldLink RX10 19 "HaltingaleModel" "thrown" "I") (by decide +kernel)) (fun _ h9 => h9) rfl (by decide +kernel) rfl rfl (Nat.le_of_ble_eq_true rfl) dX10_many_2 (fun H locs hP hD hS => ?_)
  have hP : va_P (dC, dI) vwCl [(m0, .inr (12, [.int 0, .ref l1, .ref l2, .int 0, .int 0, .int 0, .long 0])), (l1, .inr (1, [.int 0, .ref a0, .int 0])), (l2, .inr (1, [.int 0, .ref a0, .int 0]))] H := hP
  have hD : va_D A [(m0, .inr (12, [.int 0, .ref l1, .ref l2, .int 0, .int 0, .int 0, .long 0])), (l1, .inr (1, [.int 0, .ref a0, .int 0])), (l2, .inr (1, [.int 0, .ref a0, .int 0]))] := hD
  refine lv_iload_n hx hb dX10_many_5 rfl (lv_at hl 1 rfl) ?_
  refine lv_iconst (v := 0) hx hb dX10_many_6 (by decide) ?_
  refine lv_bipush (v := 10) hx hb dX10_many_7 (by decide) ?_
  have hPc := hP.sub (ws' := []) [] rfl
  have hDc := hD.sub (ws' := []) [] (by decide) rfl
  have hKc := hK.sub (tys' := []) [] rfl
  have hFc := va_free (wc := []) hD hS hA [] rfl
  have hZc := ((hZ.kept hS.2.1).narrow hFc)
  refine va_calli (va_runS (As := [.int 3, .int 0, .int 10]) (rest := []) ⟨hx, hb, hml, hown, hts⟩ (c_X10_is l hnt dC dI a0 3 0 10 H.size ) (va_cwS 3 hts (goodIn_of _ (by decide +kernel)) rfl rfl rfl (by decide +kernel) ⟨Nat.le_of_ble_eq_true rfl, Nat.le_of_ble_eq_true rfl⟩) ⟨fun a U g mk q => by obtain ⟨q0, q1, qP, qK, qD, qZ⟩ := q; exact ⟨q0, q1, qP, va_K.moved (u := U) (U := U.calling g mk a) (Vm.Alike.refl U.vm) qK, qD, qZ.call⟩, fun U hU hW => ⟨rfl, by rw [hU], by rw [hU]; exact hPc, va_K.moved hW.alike hKc, hDc.weaken (fun _ _ _ _ => trivial), by rw [hU]; exact hZc.warm hW⟩⟩ rfl rfl hl.1 rfl (lv_room (Nat.le_of_ble_eq_true rfl)) dX10_many_9 ⟨Nat.le_of_ble_eq_true rfl, Nat.le_of_ble_eq_true rfl⟩) hS (fun q _ h => hFc q h) hFc (fun r_1 u t H1 locs ht hvm hw hB hz1 hk1 hS => ?_)
  obtain ⟨hP1, hK1, hD1⟩ := hB
  rw [ht] at hP1
  have hK1 := va_K.moved hvm.symm hK1
  obtain ⟨hP, hD⟩ := va_join (wr := [(m0, .inr (12, [.int 0, .ref l1, .ref l2, .int 0, .int 0, .int 0, .long 0])), (l1, .inr (1, [.int 0, .ref a0, .int 0])), (l2, .inr (1, [.int 0, .ref a0, .int 0]))]) (w1 := []) hP hD [] [0, 1, 2] rfl rfl (by decide) (by decide) hk1 hFc hP1 hD1
  have hK := (hK.sub (tys' := []) [] rfl).app hK1
  generalize H1 = H at hP hS ⊢
  have hP : va_P (dC, dI) vwCl [(m0, .inr (12, [.int 0, .ref l1, .ref l2, .int 0, .int 0, .int 0, .long 0])), (l1, .inr (1, [.int 0, .ref a0, .int 0])), (l2, .inr (1, [.int 0, .ref a0, .int 0]))] H := hP
  have hD : va_D A [(m0, .inr (12, [.int 0, .ref l1, .ref l2, .int 0, .int 0, .int 0, .long 0])), (l1, .inr (1, [.int 0, .ref a0, .int 0])), (l2, .inr (1, [.int 0, .ref a0, .int 0]))] := hD
  have hK : va_K (dC, dI) vwCl [] s := hK
  refine W.widen (k := 0) (n := 0) (Nat.le_of_ble_eq_true rfl) (Nat.le_of_ble_eq_true rfl) ?_
  obtain rfl : r_1 = 1 := hw.trans (by decide)
  refine lv_if_eq (tgt := 23) hx hb dX10_many_12 (by decide) (fun c_2 => ?_) (fun c_2 => ?_)
  · (first | exact absurd c_2 (by decide) | exact absurd (by decide) c_2)
  refine lv_aload_n hx hb dX10_many_15 rfl (lv_at hl 0 rfl) ?_
  refine lv_iload_n hx hb dX10_many_16 rfl (lv_at hl 1 rfl) ?_
  have hPc := hP.sub (ws' := [(m0, .inr (12, [.int 0, .ref l1, .ref l2, .int 0, .int 0, .int 0, .long 0])), (l1, .inr (1, [.int 0, .ref a0, .int 0])), (l2, .inr (1, [.int 0, .ref a0, .int 0]))]) [0, 1, 2] rfl
  have hDc := hD.sub (ws' := [(m0, .inr (12, [.int 0, .ref l1, .ref l2, .int 0, .int 0, .int 0, .long 0])), (l1, .inr (1, [.int 0, .ref a0, .int 0])), (l2, .inr (1, [.int 0, .ref a0, .int 0]))]) [0, 1, 2] (by decide) rfl
  have hKc := hK.sub (tys' := []) [] rfl
  have hFc := va_free (wc := [(m0, .inr (12, [.int 0, .ref l1, .ref l2, .int 0, .int 0, .int 0, .long 0])), (l1, .inr (1, [.int 0, .ref a0, .int 0])), (l2, .inr (1, [.int 0, .ref a0, .int 0]))]) hD hS hA [0, 1, 2] rfl
  have hZc := ((hZ.kept hS.2.1).narrow hFc)
  refine va_calli (va_runV (As := [.int 3]) (rest := []) ⟨hx, hb, hml, hown, hts⟩ (c_X10_manyNow_3 l hnt dC dI a0 m0 l1 l2 0 H.size ) (cwV 1 hts (goodIn_of _ (by decide +kernel)) rfl rfl rfl (by decide +kernel) ⟨Nat.le_of_ble_eq_true rfl, Nat.le_of_ble_eq_true rfl⟩) ⟨fun a U g mk q => by obtain ⟨q0, q1, qP, qK, qD, qZ⟩ := q; exact ⟨q0, q1, qP, va_K.moved (u := U) (U := U.calling g mk a) (Vm.Alike.refl U.vm) qK, qD, qZ.call⟩, va_recv hKc hPc (ci := 12) (q0 := 0) rfl rfl, fun U hU hW => ⟨rfl, by rw [hU], by rw [hU]; exact hPc, va_K.moved hW.alike hKc, hDc.weaken (fun _ _ _ _ => trivial), by rw [hU]; exact hZc.warm hW⟩⟩ rfl rfl hl.1 rfl (lv_room (Nat.le_of_ble_eq_true rfl)) dX10_many_17 ⟨Nat.le_of_ble_eq_true rfl, Nat.le_of_ble_eq_true rfl⟩) hS (fun q _ h => hFc q h) hFc (fun r_3 u t H1 locs ht hvm hw hB hz1 hk1 hS => ?_)
  obtain ⟨hP1, hK1, hD1⟩ := hB
  rw [ht] at hP1
  have hK1 := va_K.moved hvm.symm hK1
  obtain ⟨hP, hD⟩ := va_join (wr := []) (w1 := [(m0, .inr (12, [.int 0, .ref l1, .ref l2, .int 0, .int 0, .int 0, .long 0])), (l1, .inr (1, [.int 0, .ref a0, .int 0])), (l2, .inr (1, [.int 0, .ref a0, .int 0]))]) hP hD [0, 1, 2] [] rfl rfl (by decide) (by decide) hk1 hFc hP1 hD1
  have hK := (hK.sub (tys' := []) [] rfl).app hK1
  generalize H1 = H at hP hS ⊢
  have hP : va_P (dC, dI) vwCl [(m0, .inr (12, [.int 0, .ref l1, .ref l2, .int 0, .int 0, .int 0, .long 0])), (l1, .inr (1, [.int 0, .ref a0, .int 0])), (l2, .inr (1, [.int 0, .ref a0, .int 0]))] H := hP
  have hD : va_D A [(m0, .inr (12, [.int 0, .ref l1, .ref l2, .int 0, .int 0, .int 0, .long 0])), (l1, .inr (1, [.int 0, .ref a0, .int 0])), (l2, .inr (1, [.int 0, .ref a0, .int 0]))] := hD
  have hK : va_K (dC, dI) vwCl [] s := hK
  refine W.widen (k := 3) (n := 20) (Nat.le_of_ble_eq_true rfl) (Nat.le_of_ble_eq_true rfl) ?_
  obtain rfl : r_3 = 0 := hw
  refine lv_goto (tgt := 28) hx hb dX10_many_20 (by decide) ?_
  have hP9 := hP.sub (ws' := [(m0, .inr (12, [.int 0, .ref l1, .ref l2, .int 0, .int 0, .int 0, .long 0]))]) [0] rfl
  have hD9 := hD.sub (ws' := [(m0, .inr (12, [.int 0, .ref l1, .ref l2, .int 0, .int 0, .int 0, .long 0]))]) [0] (by decide) rfl
  have hK9 := hK.sub (tys' := []) [] rfl
  refine W.widen (k := 3) (n := 20) (Nat.le_of_ble_eq_true rfl) (Nat.le_of_ble_eq_true rfl) ?_
  exact W.iret (v := 0) hx hb hr (fun t ht hW => ⟨⟨0, (), rfl, rfl, ⟨by rw [ht]; exact hP9, va_K.moved hW.alike hK9, hD9⟩⟩, hS.F ht⟩) hS.2.2 dX10_many_28

def zs_c_X10_many_4 : List Cond := .code yX10_many cX10_many 2 (some .int) :: (([.fieldLink RX10 19 "HaltingaleModel" "thrown" "I", .code yX10_is cX10_is 3 (some .boolean), .methodLink RX10 27 yX10_is, .static yX10_is, .initialized RX10, .code yX10_manyNow cX10_manyNow 6 (some .int), .arrayClass .int, .fieldLink RX10 10 "HaltingaleModel" "machines" "Ljava/util/ArrayList;", .code yJx4a65c_iterator_32c93 cJx4a65c_iterator_32c93 1 (some (.object "java/util/Iterator")), .classLink RJx4a65c 267 RJx35411, .instantiable RJx35411 4, .initialized RJx35411, .code yJx35411_init_45d68 cJx35411_init_45d68 2 none, .fieldLink RJx35411 1 "java/util/ArrayList$Itr" "this$0" "Ljava/util/ArrayList;", .methodLink RJx35411 7 objectInit, .instanceMethod objectInit, .code objectInit ⟨#[0xb1]⟩ 1 none, .fieldLink RJx35411 13 "java/util/ArrayList$Itr" "lastRet" "I", .sameField "java/util/ArrayList" "java/util/AbstractList" "modCount" "I", .fieldLink RJx35411 17 "java/util/ArrayList" "modCount" "I", .fieldLink RJx35411 22 "java/util/ArrayList$Itr" "expectedModCount" "I", .methodLink RJx4a65c 269 yJx35411_init_45d68, .instanceMethod yJx35411_init_45d68, .methodLink RX10 158 yJx4a65c_iterator_32c93, .instanceMethod yJx4a65c_iterator_32c93, .initialized RJx4a65c, .selects RJx4a65c yJx4a65c_iterator_32c93 yJx4a65c_iterator_32c93, .code yJx35411_hasNext_aae02 cJx35411_hasNext_aae02 1 (some .boolean), .fieldLink RJx35411 25 "java/util/ArrayList$Itr" "cursor" "I", .methodLink RX10 162 ⟨"java/util/Iterator", "hasNext", "()Z"⟩, .instanceMethod yJx35411_hasNext_aae02, .selects RJx35411 ⟨"java/util/Iterator", "hasNext", "()Z"⟩ yJx35411_hasNext_aae02, .code yJx4a65c_size_8abf5 cJx4a65c_size_8abf5 1 (some .int), .fieldLink RJx4a65c 48 "java/util/ArrayList" "size" "I", .methodLink RX10 23 yJx4a65c_size_8abf5, .instanceMethod yJx4a65c_size_8abf5, .selects RJx4a65c yJx4a65c_size_8abf5 yJx4a65c_size_8abf5, .fieldLink RX10 16 "HaltingaleModel" "tags" "Ljava/util/ArrayList;", .fieldLink RX10 191 "HaltingaleModel" "given" "I", .fieldLink RX10 194 "HaltingaleModel" "taken" "I", .fieldLink RX10 67 "HaltingaleModel" "back" "I", .methodLink RX10 258 yX10_manyNow, .instanceMethod yX10_manyNow, .selects RX10 yX10_manyNow yX10_manyNow] : List Cond) ++ wsX100 ++ wsJx354110 ++ wsJx4a65c0)
set_option maxHeartbeats 4000000 in
set_option maxRecDepth 100000 in
/-- many of 4 -/
theorem c_X10_many_4 (l : Launch) (hnt : l.stackTraces = false) (dC : Nat → ClassId) (dI : Nat → Nat → Nat) (a0 : Nat) (m0 : Nat) (l1 : Nat) (l2 : Nat) (sz : Nat)  : Met l yX10_many zs_c_X10_many_4 ({ frames := 4, cells := 3, slots := 20, locals := 78 }) (va_Pc [.ref m0, .int 4] (fun U => U.heap.size = sz ∧ va_P (dC, dI) vwCl [(m0, .inr (12, [.int 0, .ref l1, .ref l2, .int 0, .int 0, .int 0, .long 0])), (l1, .inr (1, [.int 0, .ref a0, .int 0])), (l2, .inr (1, [.int 0, .ref a0, .int 0]))] U.heap ∧ va_K (dC, dI) vwCl [] U ∧ va_D (fun _ => True) [(m0, .inr (12, [.int 0, .ref l1, .ref l2, .int 0, .int 0, .int 0, .long 0])), (l1, .inr (1, [.int 0, .ref a0, .int 0])), (l2, .inr (1, [.int 0, .ref a0, .int 0]))] ∧ zB a0 (va_A [(m0, .inr (12, [.int 0, .ref l1, .ref l2, .int 0, .int 0, .int 0, .long 0])), (l1, .inr (1, [.int 0, .ref a0, .int 0])), (l2, .inr (1, [.int 0, .ref a0, .int 0]))] sz) U U.heap)) (va_Qi (fun (r : Int32) (_ : Unit) => r = 0) (fun _ t => va_P (dC, dI) vwCl [(m0, .inr (12, [.int 0, .ref l1, .ref l2, .int 0, .int 0, .int 0, .long 0]))] t.heap ∧ va_K (dC, dI) vwCl [] t ∧ va_D (va_A [(m0, .inr (12, [.int 0, .ref l1, .ref l2, .int 0, .int 0, .int 0, .long 0])), (l1, .inr (1, [.int 0, .ref a0, .int 0])), (l2, .inr (1, [.int 0, .ref a0, .int 0]))] sz) [(m0, .inr (12, [.int 0, .ref l1, .ref l2, .int 0, .int 0, .int 0, .long 0]))]) (va_A [(m0, .inr (12, [.int 0, .ref l1, .ref l2, .int 0, .int 0, .int 0, .long 0])), (l1, .inr (1, [.int 0, .ref a0, .int 0])), (l2, .inr (1, [.int 0, .ref a0, .int 0]))] sz)) 3 20 (va_A [(m0, .inr (12, [.int 0, .ref l1, .ref l2, .int 0, .int 0, .int 0, .long 0])), (l1, .inr (1, [.int 0, .ref a0, .int 0])), (l2, .inr (1, [.int 0, .ref a0, .int 0]))] sz) := by
  refine Met.ofW (cc := cX10_many) (maxL := 2) (ret := (some .int)) (by decide) rfl ?_
  intro p e s m args below meth c s₁ B hml hv
  obtain ⟨rfl, hsz, hP, hK, hD0, hZ⟩ := hv
  have hx := B.exec
  have hb := B.bytes
  have hr := B.returns
  have hts := atoms_spec (ws := zs_c_X10_many_4) B.pre
  have hown : s.vm.findClass RX10 = some m.cls := findClass_of_methodNamed B.named
  have hlocks := B.notSynchronized
  have hiX10 : ∀ w ∈ wsX100, w ∈ zs_c_X10_many_4 := by decide +kernel
  subst hsz
  have hD := hD0.self (sz := s.heap.size)
  generalize hAe : va_A [(m0, .inr (12, [.int 0, .ref l1, .ref l2, .int 0, .int 0, .int 0, .long 0])), (l1, .inr (1, [.int 0, .ref a0, .int 0])), (l2, .inr (1, [.int 0, .ref a0, .int 0]))] s.heap.size = A at hD hZ ⊢
  have hA : ∀ q : Nat, s.heap.size ≤ q → A q := fun q h => by rw [← hAe]; exact Or.inr h
  have hS : va_S A s.heap s.heap [] := va_S.rf
  have hl := lv_entry ([.ref m0, .int 4]) (n := 2) (Nat.le_of_ble_eq_true rfl)
  rw [lg_entry_eq]
  generalize (lg_sl ([.ref m0, .int 4]) ++ List.replicate (2 - (lg_sl ([.ref m0, .int 4])).length) Slot.unset).toArray = ls at hl ⊢
  have hl : lv_has ls 2 [(0, .ref m0), (1, .int 4)] := hl
  refine lv_aload_n hx hb dX10_many_0 rfl (lv_at hl 0 rfl) ?_
  refine lv_iconst (v := 0) hx hb dX10_many_1 (by decide) ?_
  refine va_put (D := (dC, dI)) (ci := 12) (v := .int 0) (ty := .int) (C := RX10) (T := TX10) (N := 7) hx hb hts hiX10 tyX10 tyX10_ok nmX10 hown hK hP hD hS 0 rfl rfl 0 (by decide) (hts (.fieldLink RX10 19 "HaltingaleModel" "thrown" "I") (by decide +kernel)) (fun _ h9 => h9) rfl (by decide +kernel) rfl rfl (Nat.le_of_ble_eq_true rfl) dX10_many_2 (fun H locs hP hD hS => ?_)
  have hP : va_P (dC, dI) vwCl [(m0, .inr (12, [.int 0, .ref l1, .ref l2, .int 0, .int 0, .int 0, .long 0])), (l1, .inr (1, [.int 0, .ref a0, .int 0])), (l2, .inr (1, [.int 0, .ref a0, .int 0]))] H := hP
  have hD : va_D A [(m0, .inr (12, [.int 0, .ref l1, .ref l2, .int 0, .int 0, .int 0, .long 0])), (l1, .inr (1, [.int 0, .ref a0, .int 0])), (l2, .inr (1, [.int 0, .ref a0, .int 0]))] := hD
  refine lv_iload_n hx hb dX10_many_5 rfl (lv_at hl 1 rfl) ?_
  refine lv_iconst (v := 0) hx hb dX10_many_6 (by decide) ?_
  refine lv_bipush (v := 10) hx hb dX10_many_7 (by decide) ?_
  have hPc := hP.sub (ws' := []) [] rfl
  have hDc := hD.sub (ws' := []) [] (by decide) rfl
  have hKc := hK.sub (tys' := []) [] rfl
  have hFc := va_free (wc := []) hD hS hA [] rfl
  have hZc := ((hZ.kept hS.2.1).narrow hFc)
  refine va_calli (va_runS (As := [.int 4, .int 0, .int 10]) (rest := []) ⟨hx, hb, hml, hown, hts⟩ (c_X10_is l hnt dC dI a0 4 0 10 H.size ) (va_cwS 3 hts (goodIn_of _ (by decide +kernel)) rfl rfl rfl (by decide +kernel) ⟨Nat.le_of_ble_eq_true rfl, Nat.le_of_ble_eq_true rfl⟩) ⟨fun a U g mk q => by obtain ⟨q0, q1, qP, qK, qD, qZ⟩ := q; exact ⟨q0, q1, qP, va_K.moved (u := U) (U := U.calling g mk a) (Vm.Alike.refl U.vm) qK, qD, qZ.call⟩, fun U hU hW => ⟨rfl, by rw [hU], by rw [hU]; exact hPc, va_K.moved hW.alike hKc, hDc.weaken (fun _ _ _ _ => trivial), by rw [hU]; exact hZc.warm hW⟩⟩ rfl rfl hl.1 rfl (lv_room (Nat.le_of_ble_eq_true rfl)) dX10_many_9 ⟨Nat.le_of_ble_eq_true rfl, Nat.le_of_ble_eq_true rfl⟩) hS (fun q _ h => hFc q h) hFc (fun r_1 u t H1 locs ht hvm hw hB hz1 hk1 hS => ?_)
  obtain ⟨hP1, hK1, hD1⟩ := hB
  rw [ht] at hP1
  have hK1 := va_K.moved hvm.symm hK1
  obtain ⟨hP, hD⟩ := va_join (wr := [(m0, .inr (12, [.int 0, .ref l1, .ref l2, .int 0, .int 0, .int 0, .long 0])), (l1, .inr (1, [.int 0, .ref a0, .int 0])), (l2, .inr (1, [.int 0, .ref a0, .int 0]))]) (w1 := []) hP hD [] [0, 1, 2] rfl rfl (by decide) (by decide) hk1 hFc hP1 hD1
  have hK := (hK.sub (tys' := []) [] rfl).app hK1
  generalize H1 = H at hP hS ⊢
  have hP : va_P (dC, dI) vwCl [(m0, .inr (12, [.int 0, .ref l1, .ref l2, .int 0, .int 0, .int 0, .long 0])), (l1, .inr (1, [.int 0, .ref a0, .int 0])), (l2, .inr (1, [.int 0, .ref a0, .int 0]))] H := hP
  have hD : va_D A [(m0, .inr (12, [.int 0, .ref l1, .ref l2, .int 0, .int 0, .int 0, .long 0])), (l1, .inr (1, [.int 0, .ref a0, .int 0])), (l2, .inr (1, [.int 0, .ref a0, .int 0]))] := hD
  have hK : va_K (dC, dI) vwCl [] s := hK
  refine W.widen (k := 0) (n := 0) (Nat.le_of_ble_eq_true rfl) (Nat.le_of_ble_eq_true rfl) ?_
  obtain rfl : r_1 = 1 := hw.trans (by decide)
  refine lv_if_eq (tgt := 23) hx hb dX10_many_12 (by decide) (fun c_2 => ?_) (fun c_2 => ?_)
  · (first | exact absurd c_2 (by decide) | exact absurd (by decide) c_2)
  refine lv_aload_n hx hb dX10_many_15 rfl (lv_at hl 0 rfl) ?_
  refine lv_iload_n hx hb dX10_many_16 rfl (lv_at hl 1 rfl) ?_
  have hPc := hP.sub (ws' := [(m0, .inr (12, [.int 0, .ref l1, .ref l2, .int 0, .int 0, .int 0, .long 0])), (l1, .inr (1, [.int 0, .ref a0, .int 0])), (l2, .inr (1, [.int 0, .ref a0, .int 0]))]) [0, 1, 2] rfl
  have hDc := hD.sub (ws' := [(m0, .inr (12, [.int 0, .ref l1, .ref l2, .int 0, .int 0, .int 0, .long 0])), (l1, .inr (1, [.int 0, .ref a0, .int 0])), (l2, .inr (1, [.int 0, .ref a0, .int 0]))]) [0, 1, 2] (by decide) rfl
  have hKc := hK.sub (tys' := []) [] rfl
  have hFc := va_free (wc := [(m0, .inr (12, [.int 0, .ref l1, .ref l2, .int 0, .int 0, .int 0, .long 0])), (l1, .inr (1, [.int 0, .ref a0, .int 0])), (l2, .inr (1, [.int 0, .ref a0, .int 0]))]) hD hS hA [0, 1, 2] rfl
  have hZc := ((hZ.kept hS.2.1).narrow hFc)
  refine va_calli (va_runV (As := [.int 4]) (rest := []) ⟨hx, hb, hml, hown, hts⟩ (c_X10_manyNow_4 l hnt dC dI a0 m0 l1 l2 0 H.size ) (cwV 1 hts (goodIn_of _ (by decide +kernel)) rfl rfl rfl (by decide +kernel) ⟨Nat.le_of_ble_eq_true rfl, Nat.le_of_ble_eq_true rfl⟩) ⟨fun a U g mk q => by obtain ⟨q0, q1, qP, qK, qD, qZ⟩ := q; exact ⟨q0, q1, qP, va_K.moved (u := U) (U := U.calling g mk a) (Vm.Alike.refl U.vm) qK, qD, qZ.call⟩, va_recv hKc hPc (ci := 12) (q0 := 0) rfl rfl, fun U hU hW => ⟨rfl, by rw [hU], by rw [hU]; exact hPc, va_K.moved hW.alike hKc, hDc.weaken (fun _ _ _ _ => trivial), by rw [hU]; exact hZc.warm hW⟩⟩ rfl rfl hl.1 rfl (lv_room (Nat.le_of_ble_eq_true rfl)) dX10_many_17 ⟨Nat.le_of_ble_eq_true rfl, Nat.le_of_ble_eq_true rfl⟩) hS (fun q _ h => hFc q h) hFc (fun r_3 u t H1 locs ht hvm hw hB hz1 hk1 hS => ?_)
  obtain ⟨hP1, hK1, hD1⟩ := hB
  rw [ht] at hP1
  have hK1 := va_K.moved hvm.symm hK1
  obtain ⟨hP, hD⟩ := va_join (wr := []) (w1 := [(m0, .inr (12, [.int 0, .ref l1, .ref l2, .int 0, .int 0, .int 0, .long 0])), (l1, .inr (1, [.int 0, .ref a0, .int 0])), (l2, .inr (1, [.int 0, .ref a0, .int 0]))]) hP hD [0, 1, 2] [] rfl rfl (by decide) (by decide) hk1 hFc hP1 hD1
  have hK := (hK.sub (tys' := []) [] rfl).app hK1
  generalize H1 = H at hP hS ⊢
  have hP : va_P (dC, dI) vwCl [(m0, .inr (12, [.int 0, .ref l1, .ref l2, .int 0, .int 0, .int 0, .long 0])), (l1, .inr (1, [.int 0, .ref a0, .int 0])), (l2, .inr (1, [.int 0, .ref a0, .int 0]))] H := hP
  have hD : va_D A [(m0, .inr (12, [.int 0, .ref l1, .ref l2, .int 0, .int 0, .int 0, .long 0])), (l1, .inr (1, [.int 0, .ref a0, .int 0])), (l2, .inr (1, [.int 0, .ref a0, .int 0]))] := hD
  have hK : va_K (dC, dI) vwCl [] s := hK
  refine W.widen (k := 3) (n := 20) (Nat.le_of_ble_eq_true rfl) (Nat.le_of_ble_eq_true rfl) ?_
  obtain rfl : r_3 = 0 := hw
  refine lv_goto (tgt := 28) hx hb dX10_many_20 (by decide) ?_
  have hP9 := hP.sub (ws' := [(m0, .inr (12, [.int 0, .ref l1, .ref l2, .int 0, .int 0, .int 0, .long 0]))]) [0] rfl
  have hD9 := hD.sub (ws' := [(m0, .inr (12, [.int 0, .ref l1, .ref l2, .int 0, .int 0, .int 0, .long 0]))]) [0] (by decide) rfl
  have hK9 := hK.sub (tys' := []) [] rfl
  refine W.widen (k := 3) (n := 20) (Nat.le_of_ble_eq_true rfl) (Nat.le_of_ble_eq_true rfl) ?_
  exact W.iret (v := 0) hx hb hr (fun t ht hW => ⟨⟨0, (), rfl, rfl, ⟨by rw [ht]; exact hP9, va_K.moved hW.alike hK9, hD9⟩⟩, hS.F ht⟩) hS.2.2 dX10_many_28

def zs_c_X10_many_5 : List Cond := .code yX10_many cX10_many 2 (some .int) :: (([.fieldLink RX10 19 "HaltingaleModel" "thrown" "I", .code yX10_is cX10_is 3 (some .boolean), .methodLink RX10 27 yX10_is, .static yX10_is, .initialized RX10, .code yX10_manyNow cX10_manyNow 6 (some .int), .arrayClass .int, .fieldLink RX10 10 "HaltingaleModel" "machines" "Ljava/util/ArrayList;", .code yJx4a65c_iterator_32c93 cJx4a65c_iterator_32c93 1 (some (.object "java/util/Iterator")), .classLink RJx4a65c 267 RJx35411, .instantiable RJx35411 4, .initialized RJx35411, .code yJx35411_init_45d68 cJx35411_init_45d68 2 none, .fieldLink RJx35411 1 "java/util/ArrayList$Itr" "this$0" "Ljava/util/ArrayList;", .methodLink RJx35411 7 objectInit, .instanceMethod objectInit, .code objectInit ⟨#[0xb1]⟩ 1 none, .fieldLink RJx35411 13 "java/util/ArrayList$Itr" "lastRet" "I", .sameField "java/util/ArrayList" "java/util/AbstractList" "modCount" "I", .fieldLink RJx35411 17 "java/util/ArrayList" "modCount" "I", .fieldLink RJx35411 22 "java/util/ArrayList$Itr" "expectedModCount" "I", .methodLink RJx4a65c 269 yJx35411_init_45d68, .instanceMethod yJx35411_init_45d68, .methodLink RX10 158 yJx4a65c_iterator_32c93, .instanceMethod yJx4a65c_iterator_32c93, .initialized RJx4a65c, .selects RJx4a65c yJx4a65c_iterator_32c93 yJx4a65c_iterator_32c93, .code yJx35411_hasNext_aae02 cJx35411_hasNext_aae02 1 (some .boolean), .fieldLink RJx35411 25 "java/util/ArrayList$Itr" "cursor" "I", .methodLink RX10 162 ⟨"java/util/Iterator", "hasNext", "()Z"⟩, .instanceMethod yJx35411_hasNext_aae02, .selects RJx35411 ⟨"java/util/Iterator", "hasNext", "()Z"⟩ yJx35411_hasNext_aae02, .code yJx4a65c_size_8abf5 cJx4a65c_size_8abf5 1 (some .int), .fieldLink RJx4a65c 48 "java/util/ArrayList" "size" "I", .methodLink RX10 23 yJx4a65c_size_8abf5, .instanceMethod yJx4a65c_size_8abf5, .selects RJx4a65c yJx4a65c_size_8abf5 yJx4a65c_size_8abf5, .fieldLink RX10 16 "HaltingaleModel" "tags" "Ljava/util/ArrayList;", .fieldLink RX10 191 "HaltingaleModel" "given" "I", .fieldLink RX10 194 "HaltingaleModel" "taken" "I", .fieldLink RX10 67 "HaltingaleModel" "back" "I", .methodLink RX10 258 yX10_manyNow, .instanceMethod yX10_manyNow, .selects RX10 yX10_manyNow yX10_manyNow] : List Cond) ++ wsX100 ++ wsJx354110 ++ wsJx4a65c0)
set_option maxHeartbeats 4000000 in
set_option maxRecDepth 100000 in
/-- many of 5 -/
theorem c_X10_many_5 (l : Launch) (hnt : l.stackTraces = false) (dC : Nat → ClassId) (dI : Nat → Nat → Nat) (a0 : Nat) (m0 : Nat) (l1 : Nat) (l2 : Nat) (sz : Nat)  : Met l yX10_many zs_c_X10_many_5 ({ frames := 4, cells := 3, slots := 20, locals := 78 }) (va_Pc [.ref m0, .int 5] (fun U => U.heap.size = sz ∧ va_P (dC, dI) vwCl [(m0, .inr (12, [.int 0, .ref l1, .ref l2, .int 0, .int 0, .int 0, .long 0])), (l1, .inr (1, [.int 0, .ref a0, .int 0])), (l2, .inr (1, [.int 0, .ref a0, .int 0]))] U.heap ∧ va_K (dC, dI) vwCl [] U ∧ va_D (fun _ => True) [(m0, .inr (12, [.int 0, .ref l1, .ref l2, .int 0, .int 0, .int 0, .long 0])), (l1, .inr (1, [.int 0, .ref a0, .int 0])), (l2, .inr (1, [.int 0, .ref a0, .int 0]))] ∧ zB a0 (va_A [(m0, .inr (12, [.int 0, .ref l1, .ref l2, .int 0, .int 0, .int 0, .long 0])), (l1, .inr (1, [.int 0, .ref a0, .int 0])), (l2, .inr (1, [.int 0, .ref a0, .int 0]))] sz) U U.heap)) (va_Qi (fun (r : Int32) (_ : Unit) => r = 0) (fun _ t => va_P (dC, dI) vwCl [(m0, .inr (12, [.int 0, .ref l1, .ref l2, .int 0, .int 0, .int 0, .long 0]))] t.heap ∧ va_K (dC, dI) vwCl [] t ∧ va_D (va_A [(m0, .inr (12, [.int 0, .ref l1, .ref l2, .int 0, .int 0, .int 0, .long 0])), (l1, .inr (1, [.int 0, .ref a0, .int 0])), (l2, .inr (1, [.int 0, .ref a0, .int 0]))] sz) [(m0, .inr (12, [.int 0, .ref l1, .ref l2, .int 0, .int 0, .int 0, .long 0]))]) (va_A [(m0, .inr (12, [.int 0, .ref l1, .ref l2, .int 0, .int 0, .int 0, .long 0])), (l1, .inr (1, [.int 0, .ref a0, .int 0])), (l2, .inr (1, [.int 0, .ref a0, .int 0]))] sz)) 3 20 (va_A [(m0, .inr (12, [.int 0, .ref l1, .ref l2, .int 0, .int 0, .int 0, .long 0])), (l1, .inr (1, [.int 0, .ref a0, .int 0])), (l2, .inr (1, [.int 0, .ref a0, .int 0]))] sz) := by
  refine Met.ofW (cc := cX10_many) (maxL := 2) (ret := (some .int)) (by decide) rfl ?_
  intro p e s m args below meth c s₁ B hml hv
  obtain ⟨rfl, hsz, hP, hK, hD0, hZ⟩ := hv
  have hx := B.exec
  have hb := B.bytes
  have hr := B.returns
  have hts := atoms_spec (ws := zs_c_X10_many_5) B.pre
  have hown : s.vm.findClass RX10 = some m.cls := findClass_of_methodNamed B.named
  have hlocks := B.notSynchronized
  have hiX10 : ∀ w ∈ wsX100, w ∈ zs_c_X10_many_5 := by decide +kernel
  subst hsz
  have hD := hD0.self (sz := s.heap.size)
  generalize hAe : va_A [(m0, .inr (12, [.int 0, .ref l1, .ref l2, .int 0, .int 0, .int 0, .long 0])), (l1, .inr (1, [.int 0, .ref a0, .int 0])), (l2, .inr (1, [.int 0, .ref a0, .int 0]))] s.heap.size = A at hD hZ ⊢
  have hA : ∀ q : Nat, s.heap.size ≤ q → A q := fun q h => by rw [← hAe]; exact Or.inr h
  have hS : va_S A s.heap s.heap [] := va_S.rf
  have hl := lv_entry ([.ref m0, .int 5]) (n := 2) (Nat.le_of_ble_eq_true rfl)
  rw [lg_entry_eq]
  generalize (lg_sl ([.ref m0, .int 5]) ++ List.replicate (2 - (lg_sl ([.ref m0, .int 5])).length) Slot.unset).toArray = ls at hl ⊢
  have hl : lv_has ls 2 [(0, .ref m0), (1, .int 5)] := hl
  refine lv_aload_n hx hb dX10_many_0 rfl (lv_at hl 0 rfl) ?_
  refine lv_iconst (v := 0) hx hb dX10_many_1 (by decide) ?_
  refine va_put (D := (dC, dI)) (ci := 12) (v := .int 0) (ty := .int) (C := RX10) (T := TX10) (N := 7) hx hb hts hiX10 tyX10 tyX10_ok nmX10 hown hK hP hD hS 0 rfl rfl 0 (by decide) (hts (.fieldLink RX10 19 "HaltingaleModel" "thrown" "I") (by decide +kernel)) (fun _ h9 => h9) rfl (by decide +kernel) rfl rfl (Nat.le_of_ble_eq_true rfl) dX10_many_2 (fun H locs hP hD hS => ?_)
  have hP : va_P (dC, dI) vwCl [(m0, .inr (12, [.int 0, .ref l1, .ref l2, .int 0, .int 0, .int 0, .long 0])), (l1, .inr (1, [.int 0, .ref a0, .int 0])), (l2, .inr (1, [.int 0, .ref a0, .int 0]))] H := hP
  have hD : va_D A [(m0, .inr (12, [.int 0, .ref l1, .ref l2, .int 0, .int 0, .int 0, .long 0])), (l1, .inr (1, [.int 0, .ref a0, .int 0])), (l2, .inr (1, [.int 0, .ref a0, .int 0]))] := hD
  refine lv_iload_n hx hb dX10_many_5 rfl (lv_at hl 1 rfl) ?_
  refine lv_iconst (v := 0) hx hb dX10_many_6 (by decide) ?_
  refine lv_bipush (v := 10) hx hb dX10_many_7 (by decide) ?_
  have hPc := hP.sub (ws' := []) [] rfl
  have hDc := hD.sub (ws' := []) [] (by decide) rfl
  have hKc := hK.sub (tys' := []) [] rfl
  have hFc := va_free (wc := []) hD hS hA [] rfl
  have hZc := ((hZ.kept hS.2.1).narrow hFc)
  refine va_calli (va_runS (As := [.int 5, .int 0, .int 10]) (rest := []) ⟨hx, hb, hml, hown, hts⟩ (c_X10_is l hnt dC dI a0 5 0 10 H.size ) (va_cwS 3 hts (goodIn_of _ (by decide +kernel)) rfl rfl rfl (by decide +kernel) ⟨Nat.le_of_ble_eq_true rfl, Nat.le_of_ble_eq_true rfl⟩) ⟨fun a U g mk q => by obtain ⟨q0, q1, qP, qK, qD, qZ⟩ := q; exact ⟨q0, q1, qP, va_K.moved (u := U) (U := U.calling g mk a) (Vm.Alike.refl U.vm) qK, qD, qZ.call⟩, fun U hU hW => ⟨rfl, by rw [hU], by rw [hU]; exact hPc, va_K.moved hW.alike hKc, hDc.weaken (fun _ _ _ _ => trivial), by rw [hU]; exact hZc.warm hW⟩⟩ rfl rfl hl.1 rfl (lv_room (Nat.le_of_ble_eq_true rfl)) dX10_many_9 ⟨Nat.le_of_ble_eq_true rfl, Nat.le_of_ble_eq_true rfl⟩) hS (fun q _ h => hFc q h) hFc (fun r_1 u t H1 locs ht hvm hw hB hz1 hk1 hS => ?_)
  obtain ⟨hP1, hK1, hD1⟩ := hB
  rw [ht] at hP1
  have hK1 := va_K.moved hvm.symm hK1
  obtain ⟨hP, hD⟩ := va_join (wr := [(m0, .inr (12, [.int 0, .ref l1, .ref l2, .int 0, .int 0, .int 0, .long 0])), (l1, .inr (1, [.int 0, .ref a0, .int 0])), (l2, .inr (1, [.int 0, .ref a0, .int 0]))]) (w1 := []) hP hD [] [0, 1, 2] rfl rfl (by decide) (by decide) hk1 hFc hP1 hD1
  have hK := (hK.sub (tys' := []) [] rfl).app hK1
  generalize H1 = H at hP hS ⊢
  have hP : va_P (dC, dI) vwCl [(m0, .inr (12, [.int 0, .ref l1, .ref l2, .int 0, .int 0, .int 0, .long 0])), (l1, .inr (1, [.int 0, .ref a0, .int 0])), (l2, .inr (1, [.int 0, .ref a0, .int 0]))] H := hP
  have hD : va_D A [(m0, .inr (12, [.int 0, .ref l1, .ref l2, .int 0, .int 0, .int 0, .long 0])), (l1, .inr (1, [.int 0, .ref a0, .int 0])), (l2, .inr (1, [.int 0, .ref a0, .int 0]))] := hD
  have hK : va_K (dC, dI) vwCl [] s := hK
  refine W.widen (k := 0) (n := 0) (Nat.le_of_ble_eq_true rfl) (Nat.le_of_ble_eq_true rfl) ?_
  obtain rfl : r_1 = 1 := hw.trans (by decide)
  refine lv_if_eq (tgt := 23) hx hb dX10_many_12 (by decide) (fun c_2 => ?_) (fun c_2 => ?_)
  · (first | exact absurd c_2 (by decide) | exact absurd (by decide) c_2)
  refine lv_aload_n hx hb dX10_many_15 rfl (lv_at hl 0 rfl) ?_
  refine lv_iload_n hx hb dX10_many_16 rfl (lv_at hl 1 rfl) ?_
  have hPc := hP.sub (ws' := [(m0, .inr (12, [.int 0, .ref l1, .ref l2, .int 0, .int 0, .int 0, .long 0])), (l1, .inr (1, [.int 0, .ref a0, .int 0])), (l2, .inr (1, [.int 0, .ref a0, .int 0]))]) [0, 1, 2] rfl
  have hDc := hD.sub (ws' := [(m0, .inr (12, [.int 0, .ref l1, .ref l2, .int 0, .int 0, .int 0, .long 0])), (l1, .inr (1, [.int 0, .ref a0, .int 0])), (l2, .inr (1, [.int 0, .ref a0, .int 0]))]) [0, 1, 2] (by decide) rfl
  have hKc := hK.sub (tys' := []) [] rfl
  have hFc := va_free (wc := [(m0, .inr (12, [.int 0, .ref l1, .ref l2, .int 0, .int 0, .int 0, .long 0])), (l1, .inr (1, [.int 0, .ref a0, .int 0])), (l2, .inr (1, [.int 0, .ref a0, .int 0]))]) hD hS hA [0, 1, 2] rfl
  have hZc := ((hZ.kept hS.2.1).narrow hFc)
  refine va_calli (va_runV (As := [.int 5]) (rest := []) ⟨hx, hb, hml, hown, hts⟩ (c_X10_manyNow_5 l hnt dC dI a0 m0 l1 l2 0 H.size ) (cwV 1 hts (goodIn_of _ (by decide +kernel)) rfl rfl rfl (by decide +kernel) ⟨Nat.le_of_ble_eq_true rfl, Nat.le_of_ble_eq_true rfl⟩) ⟨fun a U g mk q => by obtain ⟨q0, q1, qP, qK, qD, qZ⟩ := q; exact ⟨q0, q1, qP, va_K.moved (u := U) (U := U.calling g mk a) (Vm.Alike.refl U.vm) qK, qD, qZ.call⟩, va_recv hKc hPc (ci := 12) (q0 := 0) rfl rfl, fun U hU hW => ⟨rfl, by rw [hU], by rw [hU]; exact hPc, va_K.moved hW.alike hKc, hDc.weaken (fun _ _ _ _ => trivial), by rw [hU]; exact hZc.warm hW⟩⟩ rfl rfl hl.1 rfl (lv_room (Nat.le_of_ble_eq_true rfl)) dX10_many_17 ⟨Nat.le_of_ble_eq_true rfl, Nat.le_of_ble_eq_true rfl⟩) hS (fun q _ h => hFc q h) hFc (fun r_3 u t H1 locs ht hvm hw hB hz1 hk1 hS => ?_)
  obtain ⟨hP1, hK1, hD1⟩ := hB
  rw [ht] at hP1
  have hK1 := va_K.moved hvm.symm hK1
  obtain ⟨hP, hD⟩ := va_join (wr := []) (w1 := [(m0, .inr (12, [.int 0, .ref l1, .ref l2, .int 0, .int 0, .int 0, .long 0])), (l1, .inr (1, [.int 0, .ref a0, .int 0])), (l2, .inr (1, [.int 0, .ref a0, .int 0]))]) hP hD [0, 1, 2] [] rfl rfl (by decide) (by decide) hk1 hFc hP1 hD1
  have hK := (hK.sub (tys' := []) [] rfl).app hK1
  generalize H1 = H at hP hS ⊢
  have hP : va_P (dC, dI) vwCl [(m0, .inr (12, [.int 0, .ref l1, .ref l2, .int 0, .int 0, .int 0, .long 0])), (l1, .inr (1, [.int 0, .ref a0, .int 0])), (l2, .inr (1, [.int 0, .ref a0, .int 0]))] H := hP
  have hD : va_D A [(m0, .inr (12, [.int 0, .ref l1, .ref l2, .int 0, .int 0, .int 0, .long 0])), (l1, .inr (1, [.int 0, .ref a0, .int 0])), (l2, .inr (1, [.int 0, .ref a0, .int 0]))] := hD
  have hK : va_K (dC, dI) vwCl [] s := hK
  refine W.widen (k := 3) (n := 20) (Nat.le_of_ble_eq_true rfl) (Nat.le_of_ble_eq_true rfl) ?_
  obtain rfl : r_3 = 0 := hw
  refine lv_goto (tgt := 28) hx hb dX10_many_20 (by decide) ?_
  have hP9 := hP.sub (ws' := [(m0, .inr (12, [.int 0, .ref l1, .ref l2, .int 0, .int 0, .int 0, .long 0]))]) [0] rfl
  have hD9 := hD.sub (ws' := [(m0, .inr (12, [.int 0, .ref l1, .ref l2, .int 0, .int 0, .int 0, .long 0]))]) [0] (by decide) rfl
  have hK9 := hK.sub (tys' := []) [] rfl
  refine W.widen (k := 3) (n := 20) (Nat.le_of_ble_eq_true rfl) (Nat.le_of_ble_eq_true rfl) ?_
  exact W.iret (v := 0) hx hb hr (fun t ht hW => ⟨⟨0, (), rfl, rfl, ⟨by rw [ht]; exact hP9, va_K.moved hW.alike hK9, hD9⟩⟩, hS.F ht⟩) hS.2.2 dX10_many_28

def zs_c_X10_many_6 : List Cond := .code yX10_many cX10_many 2 (some .int) :: (([.fieldLink RX10 19 "HaltingaleModel" "thrown" "I", .code yX10_is cX10_is 3 (some .boolean), .methodLink RX10 27 yX10_is, .static yX10_is, .initialized RX10, .code yX10_manyNow cX10_manyNow 6 (some .int), .arrayClass .int, .fieldLink RX10 10 "HaltingaleModel" "machines" "Ljava/util/ArrayList;", .code yJx4a65c_iterator_32c93 cJx4a65c_iterator_32c93 1 (some (.object "java/util/Iterator")), .classLink RJx4a65c 267 RJx35411, .instantiable RJx35411 4, .initialized RJx35411, .code yJx35411_init_45d68 cJx35411_init_45d68 2 none, .fieldLink RJx35411 1 "java/util/ArrayList$Itr" "this$0" "Ljava/util/ArrayList;", .methodLink RJx35411 7 objectInit, .instanceMethod objectInit, .code objectInit ⟨#[0xb1]⟩ 1 none, .fieldLink RJx35411 13 "java/util/ArrayList$Itr" "lastRet" "I", .sameField "java/util/ArrayList" "java/util/AbstractList" "modCount" "I", .fieldLink RJx35411 17 "java/util/ArrayList" "modCount" "I", .fieldLink RJx35411 22 "java/util/ArrayList$Itr" "expectedModCount" "I", .methodLink RJx4a65c 269 yJx35411_init_45d68, .instanceMethod yJx35411_init_45d68, .methodLink RX10 158 yJx4a65c_iterator_32c93, .instanceMethod yJx4a65c_iterator_32c93, .initialized RJx4a65c, .selects RJx4a65c yJx4a65c_iterator_32c93 yJx4a65c_iterator_32c93, .code yJx35411_hasNext_aae02 cJx35411_hasNext_aae02 1 (some .boolean), .fieldLink RJx35411 25 "java/util/ArrayList$Itr" "cursor" "I", .methodLink RX10 162 ⟨"java/util/Iterator", "hasNext", "()Z"⟩, .instanceMethod yJx35411_hasNext_aae02, .selects RJx35411 ⟨"java/util/Iterator", "hasNext", "()Z"⟩ yJx35411_hasNext_aae02, .code yJx4a65c_size_8abf5 cJx4a65c_size_8abf5 1 (some .int), .fieldLink RJx4a65c 48 "java/util/ArrayList" "size" "I", .methodLink RX10 23 yJx4a65c_size_8abf5, .instanceMethod yJx4a65c_size_8abf5, .selects RJx4a65c yJx4a65c_size_8abf5 yJx4a65c_size_8abf5, .fieldLink RX10 16 "HaltingaleModel" "tags" "Ljava/util/ArrayList;", .fieldLink RX10 191 "HaltingaleModel" "given" "I", .fieldLink RX10 194 "HaltingaleModel" "taken" "I", .fieldLink RX10 67 "HaltingaleModel" "back" "I", .methodLink RX10 258 yX10_manyNow, .instanceMethod yX10_manyNow, .selects RX10 yX10_manyNow yX10_manyNow] : List Cond) ++ wsX100 ++ wsJx354110 ++ wsJx4a65c0)
set_option maxHeartbeats 4000000 in
set_option maxRecDepth 100000 in
/-- many of 6 -/
theorem c_X10_many_6 (l : Launch) (hnt : l.stackTraces = false) (dC : Nat → ClassId) (dI : Nat → Nat → Nat) (a0 : Nat) (m0 : Nat) (l1 : Nat) (l2 : Nat) (sz : Nat)  : Met l yX10_many zs_c_X10_many_6 ({ frames := 4, cells := 3, slots := 20, locals := 78 }) (va_Pc [.ref m0, .int 6] (fun U => U.heap.size = sz ∧ va_P (dC, dI) vwCl [(m0, .inr (12, [.int 0, .ref l1, .ref l2, .int 0, .int 0, .int 0, .long 0])), (l1, .inr (1, [.int 0, .ref a0, .int 0])), (l2, .inr (1, [.int 0, .ref a0, .int 0]))] U.heap ∧ va_K (dC, dI) vwCl [] U ∧ va_D (fun _ => True) [(m0, .inr (12, [.int 0, .ref l1, .ref l2, .int 0, .int 0, .int 0, .long 0])), (l1, .inr (1, [.int 0, .ref a0, .int 0])), (l2, .inr (1, [.int 0, .ref a0, .int 0]))] ∧ zB a0 (va_A [(m0, .inr (12, [.int 0, .ref l1, .ref l2, .int 0, .int 0, .int 0, .long 0])), (l1, .inr (1, [.int 0, .ref a0, .int 0])), (l2, .inr (1, [.int 0, .ref a0, .int 0]))] sz) U U.heap)) (va_Qi (fun (r : Int32) (_ : Unit) => r = 0) (fun _ t => va_P (dC, dI) vwCl [(m0, .inr (12, [.int 0, .ref l1, .ref l2, .int 0, .int 0, .int 0, .long 0]))] t.heap ∧ va_K (dC, dI) vwCl [] t ∧ va_D (va_A [(m0, .inr (12, [.int 0, .ref l1, .ref l2, .int 0, .int 0, .int 0, .long 0])), (l1, .inr (1, [.int 0, .ref a0, .int 0])), (l2, .inr (1, [.int 0, .ref a0, .int 0]))] sz) [(m0, .inr (12, [.int 0, .ref l1, .ref l2, .int 0, .int 0, .int 0, .long 0]))]) (va_A [(m0, .inr (12, [.int 0, .ref l1, .ref l2, .int 0, .int 0, .int 0, .long 0])), (l1, .inr (1, [.int 0, .ref a0, .int 0])), (l2, .inr (1, [.int 0, .ref a0, .int 0]))] sz)) 3 20 (va_A [(m0, .inr (12, [.int 0, .ref l1, .ref l2, .int 0, .int 0, .int 0, .long 0])), (l1, .inr (1, [.int 0, .ref a0, .int 0])), (l2, .inr (1, [.int 0, .ref a0, .int 0]))] sz) := by
  refine Met.ofW (cc := cX10_many) (maxL := 2) (ret := (some .int)) (by decide) rfl ?_
  intro p e s m args below meth c s₁ B hml hv
  obtain ⟨rfl, hsz, hP, hK, hD0, hZ⟩ := hv
  have hx := B.exec
  have hb := B.bytes
  have hr := B.returns
  have hts := atoms_spec (ws := zs_c_X10_many_6) B.pre
  have hown : s.vm.findClass RX10 = some m.cls := findClass_of_methodNamed B.named
  have hlocks := B.notSynchronized
  have hiX10 : ∀ w ∈ wsX100, w ∈ zs_c_X10_many_6 := by decide +kernel
  subst hsz
  have hD := hD0.self (sz := s.heap.size)
  generalize hAe : va_A [(m0, .inr (12, [.int 0, .ref l1, .ref l2, .int 0, .int 0, .int 0, .long 0])), (l1, .inr (1, [.int 0, .ref a0, .int 0])), (l2, .inr (1, [.int 0, .ref a0, .int 0]))] s.heap.size = A at hD hZ ⊢
  have hA : ∀ q : Nat, s.heap.size ≤ q → A q := fun q h => by rw [← hAe]; exact Or.inr h
  have hS : va_S A s.heap s.heap [] := va_S.rf
  have hl := lv_entry ([.ref m0, .int 6]) (n := 2) (Nat.le_of_ble_eq_true rfl)
  rw [lg_entry_eq]
  generalize (lg_sl ([.ref m0, .int 6]) ++ List.replicate (2 - (lg_sl ([.ref m0, .int 6])).length) Slot.unset).toArray = ls at hl ⊢
  have hl : lv_has ls 2 [(0, .ref m0), (1, .int 6)] := hl
  refine lv_aload_n hx hb dX10_many_0 rfl (lv_at hl 0 rfl) ?_
  refine lv_iconst (v := 0) hx hb dX10_many_1 (by decide) ?_
  refine va_put (D := (dC, dI)) (ci := 12) (v := .int 0) (ty := .int) (C := RX10) (T := TX10) (N := 7) hx hb hts hiX10 tyX10 tyX10_ok nmX10 hown hK hP hD hS 0 rfl rfl 0 (by decide) (hts (.fieldLink RX10 19 "HaltingaleModel" "thrown" "I") (by decide +kernel)) (fun _ h9 => h9) rfl (by decide +kernel) rfl rfl (Nat.le_of_ble_eq_true rfl) dX10_many_2 (fun H locs hP hD hS => ?_)
  have hP : va_P (dC, dI) vwCl [(m0, .inr (12, [.int 0, .ref l1, .ref l2, .int 0, .int 0, .int 0, .long 0])), (l1, .inr (1, [.int 0, .ref a0, .int 0])), (l2, .inr (1, [.int 0, .ref a0, .int 0]))] H := hP
  have hD : va_D A [(m0, .inr (12, [.int 0, .ref l1, .ref l2, .int 0, .int 0, .int 0, .long 0])), (l1, .inr (1, [.int 0, .ref a0, .int 0])), (l2, .inr (1, [.int 0, .ref a0, .int 0]))] := hD
  refine lv_iload_n hx hb dX10_many_5 rfl (lv_at hl 1 rfl) ?_
  refine lv_iconst (v := 0) hx hb dX10_many_6 (by decide) ?_
  refine lv_bipush (v := 10) hx hb dX10_many_7 (by decide) ?_
  have hPc := hP.sub (ws' := []) [] rfl
  have hDc := hD.sub (ws' := []) [] (by decide) rfl
  have hKc := hK.sub (tys' := []) [] rfl
  have hFc := va_free (wc := []) hD hS hA [] rfl
  have hZc := ((hZ.kept hS.2.1).narrow hFc)
  refine va_calli (va_runS (As := [.int 6, .int 0, .int 10]) (rest := []) ⟨hx, hb, hml, hown, hts⟩ (c_X10_is l hnt dC dI a0 6 0 10 H.size ) (va_cwS 3 hts (goodIn_of _ (by decide +kernel)) rfl rfl rfl (by decide +kernel) ⟨Nat.le_of_ble_eq_true rfl, Nat.le_of_ble_eq_true rfl⟩) ⟨fun a U g mk q => by obtain ⟨q0, q1, qP, qK, qD, qZ⟩ := q; exact ⟨q0, q1, qP, va_K.moved (u := U) (U := U.calling g mk a) (Vm.Alike.refl U.vm) qK, qD, qZ.call⟩, fun U hU hW => ⟨rfl, by rw [hU], by rw [hU]; exact hPc, va_K.moved hW.alike hKc, hDc.weaken (fun _ _ _ _ => trivial), by rw [hU]; exact hZc.warm hW⟩⟩ rfl rfl hl.1 rfl (lv_room (Nat.le_of_ble_eq_true rfl)) dX10_many_9 ⟨Nat.le_of_ble_eq_true rfl, Nat.le_of_ble_eq_true rfl⟩) hS (fun q _ h => hFc q h) hFc (fun r_1 u t H1 locs ht hvm hw hB hz1 hk1 hS => ?_)
  obtain ⟨hP1, hK1, hD1⟩ := hB
  rw [ht] at hP1
  have hK1 := va_K.moved hvm.symm hK1
  obtain ⟨hP, hD⟩ := va_join (wr := [(m0, .inr (12, [.int 0, .ref l1, .ref l2, .int 0, .int 0, .int 0, .long 0])), (l1, .inr (1, [.int 0, .ref a0, .int 0])), (l2, .inr (1, [.int 0, .ref a0, .int 0]))]) (w1 := []) hP hD [] [0, 1, 2] rfl rfl (by decide) (by decide) hk1 hFc hP1 hD1
  have hK := (hK.sub (tys' := []) [] rfl).app hK1
  generalize H1 = H at hP hS ⊢
  have hP : va_P (dC, dI) vwCl [(m0, .inr (12, [.int 0, .ref l1, .ref l2, .int 0, .int 0, .int 0, .long 0])), (l1, .inr (1, [.int 0, .ref a0, .int 0])), (l2, .inr (1, [.int 0, .ref a0, .int 0]))] H := hP
  have hD : va_D A [(m0, .inr (12, [.int 0, .ref l1, .ref l2, .int 0, .int 0, .int 0, .long 0])), (l1, .inr (1, [.int 0, .ref a0, .int 0])), (l2, .inr (1, [.int 0, .ref a0, .int 0]))] := hD
  have hK : va_K (dC, dI) vwCl [] s := hK
  refine W.widen (k := 0) (n := 0) (Nat.le_of_ble_eq_true rfl) (Nat.le_of_ble_eq_true rfl) ?_
  obtain rfl : r_1 = 1 := hw.trans (by decide)
  refine lv_if_eq (tgt := 23) hx hb dX10_many_12 (by decide) (fun c_2 => ?_) (fun c_2 => ?_)
  · (first | exact absurd c_2 (by decide) | exact absurd (by decide) c_2)
  refine lv_aload_n hx hb dX10_many_15 rfl (lv_at hl 0 rfl) ?_
  refine lv_iload_n hx hb dX10_many_16 rfl (lv_at hl 1 rfl) ?_
  have hPc := hP.sub (ws' := [(m0, .inr (12, [.int 0, .ref l1, .ref l2, .int 0, .int 0, .int 0, .long 0])), (l1, .inr (1, [.int 0, .ref a0, .int 0])), (l2, .inr (1, [.int 0, .ref a0, .int 0]))]) [0, 1, 2] rfl
  have hDc := hD.sub (ws' := [(m0, .inr (12, [.int 0, .ref l1, .ref l2, .int 0, .int 0, .int 0, .long 0])), (l1, .inr (1, [.int 0, .ref a0, .int 0])), (l2, .inr (1, [.int 0, .ref a0, .int 0]))]) [0, 1, 2] (by decide) rfl
  have hKc := hK.sub (tys' := []) [] rfl
  have hFc := va_free (wc := [(m0, .inr (12, [.int 0, .ref l1, .ref l2, .int 0, .int 0, .int 0, .long 0])), (l1, .inr (1, [.int 0, .ref a0, .int 0])), (l2, .inr (1, [.int 0, .ref a0, .int 0]))]) hD hS hA [0, 1, 2] rfl
  have hZc := ((hZ.kept hS.2.1).narrow hFc)
  refine va_calli (va_runV (As := [.int 6]) (rest := []) ⟨hx, hb, hml, hown, hts⟩ (c_X10_manyNow_6 l hnt dC dI a0 m0 l1 l2 0 H.size ) (cwV 1 hts (goodIn_of _ (by decide +kernel)) rfl rfl rfl (by decide +kernel) ⟨Nat.le_of_ble_eq_true rfl, Nat.le_of_ble_eq_true rfl⟩) ⟨fun a U g mk q => by obtain ⟨q0, q1, qP, qK, qD, qZ⟩ := q; exact ⟨q0, q1, qP, va_K.moved (u := U) (U := U.calling g mk a) (Vm.Alike.refl U.vm) qK, qD, qZ.call⟩, va_recv hKc hPc (ci := 12) (q0 := 0) rfl rfl, fun U hU hW => ⟨rfl, by rw [hU], by rw [hU]; exact hPc, va_K.moved hW.alike hKc, hDc.weaken (fun _ _ _ _ => trivial), by rw [hU]; exact hZc.warm hW⟩⟩ rfl rfl hl.1 rfl (lv_room (Nat.le_of_ble_eq_true rfl)) dX10_many_17 ⟨Nat.le_of_ble_eq_true rfl, Nat.le_of_ble_eq_true rfl⟩) hS (fun q _ h => hFc q h) hFc (fun r_3 u t H1 locs ht hvm hw hB hz1 hk1 hS => ?_)
  obtain ⟨hP1, hK1, hD1⟩ := hB
  rw [ht] at hP1
  have hK1 := va_K.moved hvm.symm hK1
  obtain ⟨hP, hD⟩ := va_join (wr := []) (w1 := [(m0, .inr (12, [.int 0, .ref l1, .ref l2, .int 0, .int 0, .int 0, .long 0])), (l1, .inr (1, [.int 0, .ref a0, .int 0])), (l2, .inr (1, [.int 0, .ref a0, .int 0]))]) hP hD [0, 1, 2] [] rfl rfl (by decide) (by decide) hk1 hFc hP1 hD1
  have hK := (hK.sub (tys' := []) [] rfl).app hK1
  generalize H1 = H at hP hS ⊢
  have hP : va_P (dC, dI) vwCl [(m0, .inr (12, [.int 0, .ref l1, .ref l2, .int 0, .int 0, .int 0, .long 0])), (l1, .inr (1, [.int 0, .ref a0, .int 0])), (l2, .inr (1, [.int 0, .ref a0, .int 0]))] H := hP
  have hD : va_D A [(m0, .inr (12, [.int 0, .ref l1, .ref l2, .int 0, .int 0, .int 0, .long 0])), (l1, .inr (1, [.int 0, .ref a0, .int 0])), (l2, .inr (1, [.int 0, .ref a0, .int 0]))] := hD
  have hK : va_K (dC, dI) vwCl [] s := hK
  refine W.widen (k := 3) (n := 20) (Nat.le_of_ble_eq_true rfl) (Nat.le_of_ble_eq_true rfl) ?_
  obtain rfl : r_3 = 0 := hw
  refine lv_goto (tgt := 28) hx hb dX10_many_20 (by decide) ?_
  have hP9 := hP.sub (ws' := [(m0, .inr (12, [.int 0, .ref l1, .ref l2, .int 0, .int 0, .int 0, .long 0]))]) [0] rfl
  have hD9 := hD.sub (ws' := [(m0, .inr (12, [.int 0, .ref l1, .ref l2, .int 0, .int 0, .int 0, .long 0]))]) [0] (by decide) rfl
  have hK9 := hK.sub (tys' := []) [] rfl
  refine W.widen (k := 3) (n := 20) (Nat.le_of_ble_eq_true rfl) (Nat.le_of_ble_eq_true rfl) ?_
  exact W.iret (v := 0) hx hb hr (fun t ht hW => ⟨⟨0, (), rfl, rfl, ⟨by rw [ht]; exact hP9, va_K.moved hW.alike hK9, hD9⟩⟩, hS.F ht⟩) hS.2.2 dX10_many_28

def zs_c_X10_many_7 : List Cond := .code yX10_many cX10_many 2 (some .int) :: (([.fieldLink RX10 19 "HaltingaleModel" "thrown" "I", .code yX10_is cX10_is 3 (some .boolean), .methodLink RX10 27 yX10_is, .static yX10_is, .initialized RX10, .code yX10_manyNow cX10_manyNow 6 (some .int), .arrayClass .int, .fieldLink RX10 10 "HaltingaleModel" "machines" "Ljava/util/ArrayList;", .code yJx4a65c_iterator_32c93 cJx4a65c_iterator_32c93 1 (some (.object "java/util/Iterator")), .classLink RJx4a65c 267 RJx35411, .instantiable RJx35411 4, .initialized RJx35411, .code yJx35411_init_45d68 cJx35411_init_45d68 2 none, .fieldLink RJx35411 1 "java/util/ArrayList$Itr" "this$0" "Ljava/util/ArrayList;", .methodLink RJx35411 7 objectInit, .instanceMethod objectInit, .code objectInit ⟨#[0xb1]⟩ 1 none, .fieldLink RJx35411 13 "java/util/ArrayList$Itr" "lastRet" "I", .sameField "java/util/ArrayList" "java/util/AbstractList" "modCount" "I", .fieldLink RJx35411 17 "java/util/ArrayList" "modCount" "I", .fieldLink RJx35411 22 "java/util/ArrayList$Itr" "expectedModCount" "I", .methodLink RJx4a65c 269 yJx35411_init_45d68, .instanceMethod yJx35411_init_45d68, .methodLink RX10 158 yJx4a65c_iterator_32c93, .instanceMethod yJx4a65c_iterator_32c93, .initialized RJx4a65c, .selects RJx4a65c yJx4a65c_iterator_32c93 yJx4a65c_iterator_32c93, .code yJx35411_hasNext_aae02 cJx35411_hasNext_aae02 1 (some .boolean), .fieldLink RJx35411 25 "java/util/ArrayList$Itr" "cursor" "I", .methodLink RX10 162 ⟨"java/util/Iterator", "hasNext", "()Z"⟩, .instanceMethod yJx35411_hasNext_aae02, .selects RJx35411 ⟨"java/util/Iterator", "hasNext", "()Z"⟩ yJx35411_hasNext_aae02, .code yJx4a65c_size_8abf5 cJx4a65c_size_8abf5 1 (some .int), .fieldLink RJx4a65c 48 "java/util/ArrayList" "size" "I", .methodLink RX10 23 yJx4a65c_size_8abf5, .instanceMethod yJx4a65c_size_8abf5, .selects RJx4a65c yJx4a65c_size_8abf5 yJx4a65c_size_8abf5, .fieldLink RX10 16 "HaltingaleModel" "tags" "Ljava/util/ArrayList;", .fieldLink RX10 191 "HaltingaleModel" "given" "I", .fieldLink RX10 194 "HaltingaleModel" "taken" "I", .fieldLink RX10 67 "HaltingaleModel" "back" "I", .methodLink RX10 258 yX10_manyNow, .instanceMethod yX10_manyNow, .selects RX10 yX10_manyNow yX10_manyNow] : List Cond) ++ wsX100 ++ wsJx354110 ++ wsJx4a65c0)
set_option maxHeartbeats 4000000 in
set_option maxRecDepth 100000 in
/-- many of 7 -/
theorem c_X10_many_7 (l : Launch) (hnt : l.stackTraces = false) (dC : Nat → ClassId) (dI : Nat → Nat → Nat) (a0 : Nat) (m0 : Nat) (l1 : Nat) (l2 : Nat) (sz : Nat)  : Met l yX10_many zs_c_X10_many_7 ({ frames := 4, cells := 3, slots := 20, locals := 78 }) (va_Pc [.ref m0, .int 7] (fun U => U.heap.size = sz ∧ va_P (dC, dI) vwCl [(m0, .inr (12, [.int 0, .ref l1, .ref l2, .int 0, .int 0, .int 0, .long 0])), (l1, .inr (1, [.int 0, .ref a0, .int 0])), (l2, .inr (1, [.int 0, .ref a0, .int 0]))] U.heap ∧ va_K (dC, dI) vwCl [] U ∧ va_D (fun _ => True) [(m0, .inr (12, [.int 0, .ref l1, .ref l2, .int 0, .int 0, .int 0, .long 0])), (l1, .inr (1, [.int 0, .ref a0, .int 0])), (l2, .inr (1, [.int 0, .ref a0, .int 0]))] ∧ zB a0 (va_A [(m0, .inr (12, [.int 0, .ref l1, .ref l2, .int 0, .int 0, .int 0, .long 0])), (l1, .inr (1, [.int 0, .ref a0, .int 0])), (l2, .inr (1, [.int 0, .ref a0, .int 0]))] sz) U U.heap)) (va_Qi (fun (r : Int32) (_ : Unit) => r = 0) (fun _ t => va_P (dC, dI) vwCl [(m0, .inr (12, [.int 0, .ref l1, .ref l2, .int 0, .int 0, .int 0, .long 0]))] t.heap ∧ va_K (dC, dI) vwCl [] t ∧ va_D (va_A [(m0, .inr (12, [.int 0, .ref l1, .ref l2, .int 0, .int 0, .int 0, .long 0])), (l1, .inr (1, [.int 0, .ref a0, .int 0])), (l2, .inr (1, [.int 0, .ref a0, .int 0]))] sz) [(m0, .inr (12, [.int 0, .ref l1, .ref l2, .int 0, .int 0, .int 0, .long 0]))]) (va_A [(m0, .inr (12, [.int 0, .ref l1, .ref l2, .int 0, .int 0, .int 0, .long 0])), (l1, .inr (1, [.int 0, .ref a0, .int 0])), (l2, .inr (1, [.int 0, .ref a0, .int 0]))] sz)) 3 20 (va_A [(m0, .inr (12, [.int 0, .ref l1, .ref l2, .int 0, .int 0, .int 0, .long 0])), (l1, .inr (1, [.int 0, .ref a0, .int 0])), (l2, .inr (1, [.int 0, .ref a0, .int 0]))] sz) := by
  refine Met.ofW (cc := cX10_many) (maxL := 2) (ret := (some .int)) (by decide) rfl ?_
  intro p e s m args below meth c s₁ B hml hv
  obtain ⟨rfl, hsz, hP, hK, hD0, hZ⟩ := hv
  have hx := B.exec
  have hb := B.bytes
  have hr := B.returns
  have hts := atoms_spec (ws := zs_c_X10_many_7) B.pre
  have hown : s.vm.findClass RX10 = some m.cls := findClass_of_methodNamed B.named
  have hlocks := B.notSynchronized
  have hiX10 : ∀ w ∈ wsX100, w ∈ zs_c_X10_many_7 := by decide +kernel
  subst hsz
  have hD := hD0.self (sz := s.heap.size)
  generalize hAe : va_A [(m0, .inr (12, [.int 0, .ref l1, .ref l2, .int 0, .int 0, .int 0, .long 0])), (l1, .inr (1, [.int 0, .ref a0, .int 0])), (l2, .inr (1, [.int 0, .ref a0, .int 0]))] s.heap.size = A at hD hZ ⊢
  have hA : ∀ q : Nat, s.heap.size ≤ q → A q := fun q h => by rw [← hAe]; exact Or.inr h
  have hS : va_S A s.heap s.heap [] := va_S.rf
  have hl := lv_entry ([.ref m0, .int 7]) (n := 2) (Nat.le_of_ble_eq_true rfl)
  rw [lg_entry_eq]
  generalize (lg_sl ([.ref m0, .int 7]) ++ List.replicate (2 - (lg_sl ([.ref m0, .int 7])).length) Slot.unset).toArray = ls at hl ⊢
  have hl : lv_has ls 2 [(0, .ref m0), (1, .int 7)] := hl
  refine lv_aload_n hx hb dX10_many_0 rfl (lv_at hl 0 rfl) ?_
  refine lv_iconst (v := 0) hx hb dX10_many_1 (by decide) ?_
  refine va_put (D := (dC, dI)) (ci := 12) (v := .int 0) (ty := .int) (C := RX10) (T := TX10) (N := 7) hx hb hts hiX10 tyX10 tyX10_ok nmX10 hown hK hP hD hS 0 rfl rfl 0 (by decide) (hts (.fieldLink RX10 19 "HaltingaleModel" "thrown" "I") (by decide +kernel)) (fun _ h9 => h9) rfl (by decide +kernel) rfl rfl (Nat.le_of_ble_eq_true rfl) dX10_many_2 (fun H locs hP hD hS => ?_)
  have hP : va_P (dC, dI) vwCl [(m0, .inr (12, [.int 0, .ref l1, .ref l2, .int 0, .int 0, .int 0, .long 0])), (l1, .inr (1, [.int 0, .ref a0, .int 0])), (l2, .inr (1, [.int 0, .ref a0, .int 0]))] H := hP
  have hD : va_D A [(m0, .inr (12, [.int 0, .ref l1, .ref l2, .int 0, .int 0, .int 0, .long 0])), (l1, .inr (1, [.int 0, .ref a0, .int 0])), (l2, .inr (1, [.int 0, .ref a0, .int 0]))] := hD
  refine lv_iload_n hx hb dX10_many_5 rfl (lv_at hl 1 rfl) ?_
  refine lv_iconst (v := 0) hx hb dX10_many_6 (by decide) ?_
  refine lv_bipush (v := 10) hx hb dX10_many_7 (by decide) ?_
  have hPc := hP.sub (ws' := []) [] rfl
  have hDc := hD.sub (ws' := []) [] (by decide) rfl
  have hKc := hK.sub (tys' := []) [] rfl
  have hFc := va_free (wc := []) hD hS hA [] rfl
  have hZc := ((hZ.kept hS.2.1).narrow hFc)
  refine va_calli (va_runS (As := [.int 7, .int 0, .int 10]) (rest := []) ⟨hx, hb, hml, hown, hts⟩ (c_X10_is l hnt dC dI a0 7 0 10 H.size ) (va_cwS 3 hts (goodIn_of _ (by decide +kernel)) rfl rfl rfl (by decide +kernel) ⟨Nat.le_of_ble_eq_true rfl, Nat.le_of_ble_eq_true rfl⟩) ⟨fun a U g mk q => by obtain ⟨q0, q1, qP, qK, qD, qZ⟩ := q; exact ⟨q0, q1, qP, va_K.moved (u := U) (U := U.calling g mk a) (Vm.Alike.refl U.vm) qK, qD, qZ.call⟩, fun U hU hW => ⟨rfl, by rw [hU], by rw [hU]; exact hPc, va_K.moved hW.alike hKc, hDc.weaken (fun _ _ _ _ => trivial), by rw [hU]; exact hZc.warm hW⟩⟩ rfl rfl hl.1 rfl (lv_room (Nat.le_of_ble_eq_true rfl)) dX10_many_9 ⟨Nat.le_of_ble_eq_true rfl, Nat.le_of_ble_eq_true rfl⟩) hS (fun q _ h => hFc q h) hFc (fun r_1 u t H1 locs ht hvm hw hB hz1 hk1 hS => ?_)
  obtain ⟨hP1, hK1, hD1⟩ := hB
  rw [ht] at hP1
  have hK1 := va_K.moved hvm.symm hK1
  obtain ⟨hP, hD⟩ := va_join (wr := [(m0, .inr (12, [.int 0, .ref l1, .ref l2, .int 0, .int 0, .int 0, .long 0])), (l1, .inr (1, [.int 0, .ref a0, .int 0])), (l2, .inr (1, [.int 0, .ref a0, .int 0]))]) (w1 := []) hP hD [] [0, 1, 2] rfl rfl (by decide) (by decide) hk1 hFc hP1 hD1
  have hK := (hK.sub (tys' := []) [] rfl).app hK1
  generalize H1 = H at hP hS ⊢
  have hP : va_P (dC, dI) vwCl [(m0, .inr (12, [.int 0, .ref l1, .ref l2, .int 0, .int 0, .int 0, .long 0])), (l1, .inr (1, [.int 0, .ref a0, .int 0])), (l2, .inr (1, [.int 0, .ref a0, .int 0]))] H := hP
  have hD : va_D A [(m0, .inr (12, [.int 0, .ref l1, .ref l2, .int 0, .int 0, .int 0, .long 0])), (l1, .inr (1, [.int 0, .ref a0, .int 0])), (l2, .inr (1, [.int 0, .ref a0, .int 0]))] := hD
  have hK : va_K (dC, dI) vwCl [] s := hK
  refine W.widen (k := 0) (n := 0) (Nat.le_of_ble_eq_true rfl) (Nat.le_of_ble_eq_true rfl) ?_
  obtain rfl : r_1 = 1 := hw.trans (by decide)
  refine lv_if_eq (tgt := 23) hx hb dX10_many_12 (by decide) (fun c_2 => ?_) (fun c_2 => ?_)
  · (first | exact absurd c_2 (by decide) | exact absurd (by decide) c_2)
  refine lv_aload_n hx hb dX10_many_15 rfl (lv_at hl 0 rfl) ?_
  refine lv_iload_n hx hb dX10_many_16 rfl (lv_at hl 1 rfl) ?_
  have hPc := hP.sub (ws' := [(m0, .inr (12, [.int 0, .ref l1, .ref l2, .int 0, .int 0, .int 0, .long 0])), (l1, .inr (1, [.int 0, .ref a0, .int 0])), (l2, .inr (1, [.int 0, .ref a0, .int 0]))]) [0, 1, 2] rfl
  have hDc := hD.sub (ws' := [(m0, .inr (12, [.int 0, .ref l1, .ref l2, .int 0, .int 0, .int 0, .long 0])), (l1, .inr (1, [.int 0, .ref a0, .int 0])), (l2, .inr (1, [.int 0, .ref a0, .int 0]))]) [0, 1, 2] (by decide) rfl
  have hKc := hK.sub (tys' := []) [] rfl
  have hFc := va_free (wc := [(m0, .inr (12, [.int 0, .ref l1, .ref l2, .int 0, .int 0, .int 0, .long 0])), (l1, .inr (1, [.int 0, .ref a0, .int 0])), (l2, .inr (1, [.int 0, .ref a0, .int 0]))]) hD hS hA [0, 1, 2] rfl
  have hZc := ((hZ.kept hS.2.1).narrow hFc)
  refine va_calli (va_runV (As := [.int 7]) (rest := []) ⟨hx, hb, hml, hown, hts⟩ (c_X10_manyNow_7 l hnt dC dI a0 m0 l1 l2 0 H.size ) (cwV 1 hts (goodIn_of _ (by decide +kernel)) rfl rfl rfl (by decide +kernel) ⟨Nat.le_of_ble_eq_true rfl, Nat.le_of_ble_eq_true rfl⟩) ⟨fun a U g mk q => by obtain ⟨q0, q1, qP, qK, qD, qZ⟩ := q; exact ⟨q0, q1, qP, va_K.moved (u := U) (U := U.calling g mk a) (Vm.Alike.refl U.vm) qK, qD, qZ.call⟩, va_recv hKc hPc (ci := 12) (q0 := 0) rfl rfl, fun U hU hW => ⟨rfl, by rw [hU], by rw [hU]; exact hPc, va_K.moved hW.alike hKc, hDc.weaken (fun _ _ _ _ => trivial), by rw [hU]; exact hZc.warm hW⟩⟩ rfl rfl hl.1 rfl (lv_room (Nat.le_of_ble_eq_true rfl)) dX10_many_17 ⟨Nat.le_of_ble_eq_true rfl, Nat.le_of_ble_eq_true rfl⟩) hS (fun q _ h => hFc q h) hFc (fun r_3 u t H1 locs ht hvm hw hB hz1 hk1 hS => ?_)
  obtain ⟨hP1, hK1, hD1⟩ := hB
  rw [ht] at hP1
  have hK1 := va_K.moved hvm.symm hK1
  obtain ⟨hP, hD⟩ := va_join (wr := []) (w1 := [(m0, .inr (12, [.int 0, .ref l1, .ref l2, .int 0, .int 0, .int 0, .long 0])), (l1, .inr (1, [.int 0, .ref a0, .int 0])), (l2, .inr (1, [.int 0, .ref a0, .int 0]))]) hP hD [0, 1, 2] [] rfl rfl (by decide) (by decide) hk1 hFc hP1 hD1
  have hK := (hK.sub (tys' := []) [] rfl).app hK1
  generalize H1 = H at hP hS ⊢
  have hP : va_P (dC, dI) vwCl [(m0, .inr (12, [.int 0, .ref l1, .ref l2, .int 0, .int 0, .int 0, .long 0])), (l1, .inr (1, [.int 0, .ref a0, .int 0])), (l2, .inr (1, [.int 0, .ref a0, .int 0]))] H := hP
  have hD : va_D A [(m0, .inr (12, [.int 0, .ref l1, .ref l2, .int 0, .int 0, .int 0, .long 0])), (l1, .inr (1, [.int 0, .ref a0, .int 0])), (l2, .inr (1, [.int 0, .ref a0, .int 0]))] := hD
  have hK : va_K (dC, dI) vwCl [] s := hK
  refine W.widen (k := 3) (n := 20) (Nat.le_of_ble_eq_true rfl) (Nat.le_of_ble_eq_true rfl) ?_
  obtain rfl : r_3 = 0 := hw
  refine lv_goto (tgt := 28) hx hb dX10_many_20 (by decide) ?_
  have hP9 := hP.sub (ws' := [(m0, .inr (12, [.int 0, .ref l1, .ref l2, .int 0, .int 0, .int 0, .long 0]))]) [0] rfl
  have hD9 := hD.sub (ws' := [(m0, .inr (12, [.int 0, .ref l1, .ref l2, .int 0, .int 0, .int 0, .long 0]))]) [0] (by decide) rfl
  have hK9 := hK.sub (tys' := []) [] rfl
  refine W.widen (k := 3) (n := 20) (Nat.le_of_ble_eq_true rfl) (Nat.le_of_ble_eq_true rfl) ?_
  exact W.iret (v := 0) hx hb hr (fun t ht hW => ⟨⟨0, (), rfl, rfl, ⟨by rw [ht]; exact hP9, va_K.moved hW.alike hK9, hD9⟩⟩, hS.F ht⟩) hS.2.2 dX10_many_28

def zs_c_X10_many_8 : List Cond := .code yX10_many cX10_many 2 (some .int) :: (([.fieldLink RX10 19 "HaltingaleModel" "thrown" "I", .code yX10_is cX10_is 3 (some .boolean), .methodLink RX10 27 yX10_is, .static yX10_is, .initialized RX10, .code yX10_manyNow cX10_manyNow 6 (some .int), .arrayClass .int, .fieldLink RX10 10 "HaltingaleModel" "machines" "Ljava/util/ArrayList;", .code yJx4a65c_iterator_32c93 cJx4a65c_iterator_32c93 1 (some (.object "java/util/Iterator")), .classLink RJx4a65c 267 RJx35411, .instantiable RJx35411 4, .initialized RJx35411, .code yJx35411_init_45d68 cJx35411_init_45d68 2 none, .fieldLink RJx35411 1 "java/util/ArrayList$Itr" "this$0" "Ljava/util/ArrayList;", .methodLink RJx35411 7 objectInit, .instanceMethod objectInit, .code objectInit ⟨#[0xb1]⟩ 1 none, .fieldLink RJx35411 13 "java/util/ArrayList$Itr" "lastRet" "I", .sameField "java/util/ArrayList" "java/util/AbstractList" "modCount" "I", .fieldLink RJx35411 17 "java/util/ArrayList" "modCount" "I", .fieldLink RJx35411 22 "java/util/ArrayList$Itr" "expectedModCount" "I", .methodLink RJx4a65c 269 yJx35411_init_45d68, .instanceMethod yJx35411_init_45d68, .methodLink RX10 158 yJx4a65c_iterator_32c93, .instanceMethod yJx4a65c_iterator_32c93, .initialized RJx4a65c, .selects RJx4a65c yJx4a65c_iterator_32c93 yJx4a65c_iterator_32c93, .code yJx35411_hasNext_aae02 cJx35411_hasNext_aae02 1 (some .boolean), .fieldLink RJx35411 25 "java/util/ArrayList$Itr" "cursor" "I", .methodLink RX10 162 ⟨"java/util/Iterator", "hasNext", "()Z"⟩, .instanceMethod yJx35411_hasNext_aae02, .selects RJx35411 ⟨"java/util/Iterator", "hasNext", "()Z"⟩ yJx35411_hasNext_aae02, .code yJx4a65c_size_8abf5 cJx4a65c_size_8abf5 1 (some .int), .fieldLink RJx4a65c 48 "java/util/ArrayList" "size" "I", .methodLink RX10 23 yJx4a65c_size_8abf5, .instanceMethod yJx4a65c_size_8abf5, .selects RJx4a65c yJx4a65c_size_8abf5 yJx4a65c_size_8abf5, .fieldLink RX10 16 "HaltingaleModel" "tags" "Ljava/util/ArrayList;", .fieldLink RX10 191 "HaltingaleModel" "given" "I", .fieldLink RX10 194 "HaltingaleModel" "taken" "I", .fieldLink RX10 67 "HaltingaleModel" "back" "I", .methodLink RX10 258 yX10_manyNow, .instanceMethod yX10_manyNow, .selects RX10 yX10_manyNow yX10_manyNow] : List Cond) ++ wsX100 ++ wsJx354110 ++ wsJx4a65c0)
set_option maxHeartbeats 4000000 in
set_option maxRecDepth 100000 in
/-- many of 8 -/
theorem c_X10_many_8 (l : Launch) (hnt : l.stackTraces = false) (dC : Nat → ClassId) (dI : Nat → Nat → Nat) (a0 : Nat) (m0 : Nat) (l1 : Nat) (l2 : Nat) (sz : Nat)  : Met l yX10_many zs_c_X10_many_8 ({ frames := 4, cells := 3, slots := 20, locals := 78 }) (va_Pc [.ref m0, .int 8] (fun U => U.heap.size = sz ∧ va_P (dC, dI) vwCl [(m0, .inr (12, [.int 0, .ref l1, .ref l2, .int 0, .int 0, .int 0, .long 0])), (l1, .inr (1, [.int 0, .ref a0, .int 0])), (l2, .inr (1, [.int 0, .ref a0, .int 0]))] U.heap ∧ va_K (dC, dI) vwCl [] U ∧ va_D (fun _ => True) [(m0, .inr (12, [.int 0, .ref l1, .ref l2, .int 0, .int 0, .int 0, .long 0])), (l1, .inr (1, [.int 0, .ref a0, .int 0])), (l2, .inr (1, [.int 0, .ref a0, .int 0]))] ∧ zB a0 (va_A [(m0, .inr (12, [.int 0, .ref l1, .ref l2, .int 0, .int 0, .int 0, .long 0])), (l1, .inr (1, [.int 0, .ref a0, .int 0])), (l2, .inr (1, [.int 0, .ref a0, .int 0]))] sz) U U.heap)) (va_Qi (fun (r : Int32) (_ : Unit) => r = 0) (fun _ t => va_P (dC, dI) vwCl [(m0, .inr (12, [.int 0, .ref l1, .ref l2, .int 0, .int 0, .int 0, .long 0]))] t.heap ∧ va_K (dC, dI) vwCl [] t ∧ va_D (va_A [(m0, .inr (12, [.int 0, .ref l1, .ref l2, .int 0, .int 0, .int 0, .long 0])), (l1, .inr (1, [.int 0, .ref a0, .int 0])), (l2, .inr (1, [.int 0, .ref a0, .int 0]))] sz) [(m0, .inr (12, [.int 0, .ref l1, .ref l2, .int 0, .int 0, .int 0, .long 0]))]) (va_A [(m0, .inr (12, [.int 0, .ref l1, .ref l2, .int 0, .int 0, .int 0, .long 0])), (l1, .inr (1, [.int 0, .ref a0, .int 0])), (l2, .inr (1, [.int 0, .ref a0, .int 0]))] sz)) 3 20 (va_A [(m0, .inr (12, [.int 0, .ref l1, .ref l2, .int 0, .int 0, .int 0, .long 0])), (l1, .inr (1, [.int 0, .ref a0, .int 0])), (l2, .inr (1, [.int 0, .ref a0, .int 0]))] sz) := by
  refine Met.ofW (cc := cX10_many) (maxL := 2) (ret := (some .int)) (by decide) rfl ?_
  intro p e s m args below meth c s₁ B hml hv
  obtain ⟨rfl, hsz, hP, hK, hD0, hZ⟩ := hv
  have hx := B.exec
  have hb := B.bytes
  have hr := B.returns
  have hts := atoms_spec (ws := zs_c_X10_many_8) B.pre
  have hown : s.vm.findClass RX10 = some m.cls := findClass_of_methodNamed B.named
  have hlocks := B.notSynchronized
  have hiX10 : ∀ w ∈ wsX100, w ∈ zs_c_X10_many_8 := by decide +kernel
  subst hsz
  have hD := hD0.self (sz := s.heap.size)
  generalize hAe : va_A [(m0, .inr (12, [.int 0, .ref l1, .ref l2, .int 0, .int 0, .int 0, .long 0])), (l1, .inr (1, [.int 0, .ref a0, .int 0])), (l2, .inr (1, [.int 0, .ref a0, .int 0]))] s.heap.size = A at hD hZ ⊢
  have hA : ∀ q : Nat, s.heap.size ≤ q → A q := fun q h => by rw [← hAe]; exact Or.inr h
  have hS : va_S A s.heap s.heap [] := va_S.rf
  have hl := lv_entry ([.ref m0, .int 8]) (n := 2) (Nat.le_of_ble_eq_true rfl)
  rw [lg_entry_eq]
  generalize (lg_sl ([.ref m0, .int 8]) ++ List.replicate (2 - (lg_sl ([.ref m0, .int 8])).length) Slot.unset).toArray = ls at hl ⊢
  have hl : lv_has ls 2 [(0, .ref m0), (1, .int 8)] := hl
  refine lv_aload_n hx hb dX10_many_0 rfl (lv_at hl 0 rfl) ?_
  refine lv_iconst (v := 0) hx hb dX10_many_1 (by decide) ?_
  refine va_put (D := (dC, dI)) (ci := 12) (v := .int 0) (ty := .int) (C := RX10) (T := TX10) (N := 7) hx hb hts hiX10 tyX10 tyX10_ok nmX10 hown hK hP hD hS 0 rfl rfl 0 (by decide) (hts (.fieldLink RX10 19 "HaltingaleModel" "thrown" "I") (by decide +kernel)) (fun _ h9 => h9) rfl (by decide +kernel) rfl rfl (Nat.le_of_ble_eq_true rfl) dX10_many_2 (fun H locs hP hD hS => ?_)
  have hP : va_P (dC, dI) vwCl [(m0, .inr (12, [.int 0, .ref l1, .ref l2, .int 0, .int 0, .int 0, .long 0])), (l1, .inr (1, [.int 0, .ref a0, .int 0])), (l2, .inr (1, [.int 0, .ref a0, .int 0]))] H := hP
  have hD : va_D A [(m0, .inr (12, [.int 0, .ref l1, .ref l2, .int 0, .int 0, .int 0, .long 0])), (l1, .inr (1, [.int 0, .ref a0, .int 0])), (l2, .inr (1, [.int 0, .ref a0, .int 0]))] := hD
  refine lv_iload_n hx hb dX10_many_5 rfl (lv_at hl 1 rfl) ?_
  refine lv_iconst (v := 0) hx hb dX10_many_6 (by decide) ?_
  refine lv_bipush (v := 10) hx hb dX10_many_7 (by decide) ?_
  have hPc := hP.sub (ws' := []) [] rfl
  have hDc := hD.sub (ws' := []) [] (by decide) rfl
  have hKc := hK.sub (tys' := []) [] rfl
  have hFc := va_free (wc := []) hD hS hA [] rfl
  have hZc := ((hZ.kept hS.2.1).narrow hFc)
  refine va_calli (va_runS (As := [.int 8, .int 0, .int 10]) (rest := []) ⟨hx, hb, hml, hown, hts⟩ (c_X10_is l hnt dC dI a0 8 0 10 H.size ) (va_cwS 3 hts (goodIn_of _ (by decide +kernel)) rfl rfl rfl (by decide +kernel) ⟨Nat.le_of_ble_eq_true rfl, Nat.le_of_ble_eq_true rfl⟩) ⟨fun a U g mk q => by obtain ⟨q0, q1, qP, qK, qD, qZ⟩ := q; exact ⟨q0, q1, qP, va_K.moved (u := U) (U := U.calling g mk a) (Vm.Alike.refl U.vm) qK, qD, qZ.call⟩, fun U hU hW => ⟨rfl, by rw [hU], by rw [hU]; exact hPc, va_K.moved hW.alike hKc, hDc.weaken (fun _ _ _ _ => trivial), by rw [hU]; exact hZc.warm hW⟩⟩ rfl rfl hl.1 rfl (lv_room (Nat.le_of_ble_eq_true rfl)) dX10_many_9 ⟨Nat.le_of_ble_eq_true rfl, Nat.le_of_ble_eq_true rfl⟩) hS (fun q _ h => hFc q h) hFc (fun r_1 u t H1 locs ht hvm hw hB hz1 hk1 hS => ?_)
  obtain ⟨hP1, hK1, hD1⟩ := hB
  rw [ht] at hP1
  have hK1 := va_K.moved hvm.symm hK1
  obtain ⟨hP, hD⟩ := va_join (wr := [(m0, .inr (12, [.int 0, .ref l1, .ref l2, .int 0, .int 0, .int 0, .long 0])), (l1, .inr (1, [.int 0, .ref a0, .int 0])), (l2, .inr (1, [.int 0, .ref a0, .int 0]))]) (w1 := []) hP hD [] [0, 1, 2] rfl rfl (by decide) (by decide) hk1 hFc hP1 hD1
  have hK := (hK.sub (tys' := []) [] rfl).app hK1
  generalize H1 = H at hP hS ⊢
  have hP : va_P (dC, dI) vwCl [(m0, .inr (12, [.int 0, .ref l1, .ref l2, .int 0, .int 0, .int 0, .long 0])), (l1, .inr (1, [.int 0, .ref a0, .int 0])), (l2, .inr (1, [.int 0, .ref a0, .int 0]))] H := hP
  have hD : va_D A [(m0, .inr (12, [.int 0, .ref l1, .ref l2, .int 0, .int 0, .int 0, .long 0])), (l1, .inr (1, [.int 0, .ref a0, .int 0])), (l2, .inr (1, [.int 0, .ref a0, .int 0]))] := hD
  have hK : va_K (dC, dI) vwCl [] s := hK
  refine W.widen (k := 0) (n := 0) (Nat.le_of_ble_eq_true rfl) (Nat.le_of_ble_eq_true rfl) ?_
  obtain rfl : r_1 = 1 := hw.trans (by decide)
  refine lv_if_eq (tgt := 23) hx hb dX10_many_12 (by decide) (fun c_2 => ?_) (fun c_2 => ?_)
  · (first | exact absurd c_2 (by decide) | exact absurd (by decide) c_2)
  refine lv_aload_n hx hb dX10_many_15 rfl (lv_at hl 0 rfl) ?_
  refine lv_iload_n hx hb dX10_many_16 rfl (lv_at hl 1 rfl) ?_
  have hPc := hP.sub (ws' := [(m0, .inr (12, [.int 0, .ref l1, .ref l2, .int 0, .int 0, .int 0, .long 0])), (l1, .inr (1, [.int 0, .ref a0, .int 0])), (l2, .inr (1, [.int 0, .ref a0, .int 0]))]) [0, 1, 2] rfl
  have hDc := hD.sub (ws' := [(m0, .inr (12, [.int 0, .ref l1, .ref l2, .int 0, .int 0, .int 0, .long 0])), (l1, .inr (1, [.int 0, .ref a0, .int 0])), (l2, .inr (1, [.int 0, .ref a0, .int 0]))]) [0, 1, 2] (by decide) rfl
  have hKc := hK.sub (tys' := []) [] rfl
  have hFc := va_free (wc := [(m0, .inr (12, [.int 0, .ref l1, .ref l2, .int 0, .int 0, .int 0, .long 0])), (l1, .inr (1, [.int 0, .ref a0, .int 0])), (l2, .inr (1, [.int 0, .ref a0, .int 0]))]) hD hS hA [0, 1, 2] rfl
  have hZc := ((hZ.kept hS.2.1).narrow hFc)
  refine va_calli (va_runV (As := [.int 8]) (rest := []) ⟨hx, hb, hml, hown, hts⟩ (c_X10_manyNow_8 l hnt dC dI a0 m0 l1 l2 0 H.size ) (cwV 1 hts (goodIn_of _ (by decide +kernel)) rfl rfl rfl (by decide +kernel) ⟨Nat.le_of_ble_eq_true rfl, Nat.le_of_ble_eq_true rfl⟩) ⟨fun a U g mk q => by obtain ⟨q0, q1, qP, qK, qD, qZ⟩ := q; exact ⟨q0, q1, qP, va_K.moved (u := U) (U := U.calling g mk a) (Vm.Alike.refl U.vm) qK, qD, qZ.call⟩, va_recv hKc hPc (ci := 12) (q0 := 0) rfl rfl, fun U hU hW => ⟨rfl, by rw [hU], by rw [hU]; exact hPc, va_K.moved hW.alike hKc, hDc.weaken (fun _ _ _ _ => trivial), by rw [hU]; exact hZc.warm hW⟩⟩ rfl rfl hl.1 rfl (lv_room (Nat.le_of_ble_eq_true rfl)) dX10_many_17 ⟨Nat.le_of_ble_eq_true rfl, Nat.le_of_ble_eq_true rfl⟩) hS (fun q _ h => hFc q h) hFc (fun r_3 u t H1 locs ht hvm hw hB hz1 hk1 hS => ?_)
  obtain ⟨hP1, hK1, hD1⟩ := hB
  rw [ht] at hP1
  have hK1 := va_K.moved hvm.symm hK1
  obtain ⟨hP, hD⟩ := va_join (wr := []) (w1 := [(m0, .inr (12, [.int 0, .ref l1, .ref l2, .int 0, .int 0, .int 0, .long 0])), (l1, .inr (1, [.int 0, .ref a0, .int 0])), (l2, .inr (1, [.int 0, .ref a0, .int 0]))]) hP hD [0, 1, 2] [] rfl rfl (by decide) (by decide) hk1 hFc hP1 hD1
  have hK := (hK.sub (tys' := []) [] rfl).app hK1
  generalize H1 = H at hP hS ⊢
  have hP : va_P (dC, dI) vwCl [(m0, .inr (12, [.int 0, .ref l1, .ref l2, .int 0, .int 0, .int 0, .long 0])), (l1, .inr (1, [.int 0, .ref a0, .int 0])), (l2, .inr (1, [.int 0, .ref a0, .int 0]))] H := hP
  have hD : va_D A [(m0, .inr (12, [.int 0, .ref l1, .ref l2, .int 0, .int 0, .int 0, .long 0])), (l1, .inr (1, [.int 0, .ref a0, .int 0])), (l2, .inr (1, [.int 0, .ref a0, .int 0]))] := hD
  have hK : va_K (dC, dI) vwCl [] s := hK
  refine W.widen (k := 3) (n := 20) (Nat.le_of_ble_eq_true rfl) (Nat.le_of_ble_eq_true rfl) ?_
  obtain rfl : r_3 = 0 := hw
  refine lv_goto (tgt := 28) hx hb dX10_many_20 (by decide) ?_
  have hP9 := hP.sub (ws' := [(m0, .inr (12, [.int 0, .ref l1, .ref l2, .int 0, .int 0, .int 0, .long 0]))]) [0] rfl
  have hD9 := hD.sub (ws' := [(m0, .inr (12, [.int 0, .ref l1, .ref l2, .int 0, .int 0, .int 0, .long 0]))]) [0] (by decide) rfl
  have hK9 := hK.sub (tys' := []) [] rfl
  refine W.widen (k := 3) (n := 20) (Nat.le_of_ble_eq_true rfl) (Nat.le_of_ble_eq_true rfl) ?_
  exact W.iret (v := 0) hx hb hr (fun t ht hW => ⟨⟨0, (), rfl, rfl, ⟨by rw [ht]; exact hP9, va_K.moved hW.alike hK9, hD9⟩⟩, hS.F ht⟩) hS.2.2 dX10_many_28

def zs_c_X10_many_9 : List Cond := .code yX10_many cX10_many 2 (some .int) :: (([.fieldLink RX10 19 "HaltingaleModel" "thrown" "I", .code yX10_is cX10_is 3 (some .boolean), .methodLink RX10 27 yX10_is, .static yX10_is, .initialized RX10, .code yX10_manyNow cX10_manyNow 6 (some .int), .arrayClass .int, .fieldLink RX10 10 "HaltingaleModel" "machines" "Ljava/util/ArrayList;", .code yJx4a65c_iterator_32c93 cJx4a65c_iterator_32c93 1 (some (.object "java/util/Iterator")), .classLink RJx4a65c 267 RJx35411, .instantiable RJx35411 4, .initialized RJx35411, .code yJx35411_init_45d68 cJx35411_init_45d68 2 none, .fieldLink RJx35411 1 "java/util/ArrayList$Itr" "this$0" "Ljava/util/ArrayList;", .methodLink RJx35411 7 objectInit, .instanceMethod objectInit, .code objectInit ⟨#[0xb1]⟩ 1 none, .fieldLink RJx35411 13 "java/util/ArrayList$Itr" "lastRet" "I", .sameField "java/util/ArrayList" "java/util/AbstractList" "modCount" "I", .fieldLink RJx35411 17 "java/util/ArrayList" "modCount" "I", .fieldLink RJx35411 22 "java/util/ArrayList$Itr" "expectedModCount" "I", .methodLink RJx4a65c 269 yJx35411_init_45d68, .instanceMethod yJx35411_init_45d68, .methodLink RX10 158 yJx4a65c_iterator_32c93, .instanceMethod yJx4a65c_iterator_32c93, .initialized RJx4a65c, .selects RJx4a65c yJx4a65c_iterator_32c93 yJx4a65c_iterator_32c93, .code yJx35411_hasNext_aae02 cJx35411_hasNext_aae02 1 (some .boolean), .fieldLink RJx35411 25 "java/util/ArrayList$Itr" "cursor" "I", .methodLink RX10 162 ⟨"java/util/Iterator", "hasNext", "()Z"⟩, .instanceMethod yJx35411_hasNext_aae02, .selects RJx35411 ⟨"java/util/Iterator", "hasNext", "()Z"⟩ yJx35411_hasNext_aae02, .code yJx4a65c_size_8abf5 cJx4a65c_size_8abf5 1 (some .int), .fieldLink RJx4a65c 48 "java/util/ArrayList" "size" "I", .methodLink RX10 23 yJx4a65c_size_8abf5, .instanceMethod yJx4a65c_size_8abf5, .selects RJx4a65c yJx4a65c_size_8abf5 yJx4a65c_size_8abf5, .fieldLink RX10 16 "HaltingaleModel" "tags" "Ljava/util/ArrayList;", .fieldLink RX10 191 "HaltingaleModel" "given" "I", .fieldLink RX10 194 "HaltingaleModel" "taken" "I", .fieldLink RX10 67 "HaltingaleModel" "back" "I", .methodLink RX10 258 yX10_manyNow, .instanceMethod yX10_manyNow, .selects RX10 yX10_manyNow yX10_manyNow] : List Cond) ++ wsX100 ++ wsJx354110 ++ wsJx4a65c0)
set_option maxHeartbeats 4000000 in
set_option maxRecDepth 100000 in
/-- many of 9 -/
theorem c_X10_many_9 (l : Launch) (hnt : l.stackTraces = false) (dC : Nat → ClassId) (dI : Nat → Nat → Nat) (a0 : Nat) (m0 : Nat) (l1 : Nat) (l2 : Nat) (sz : Nat)  : Met l yX10_many zs_c_X10_many_9 ({ frames := 4, cells := 3, slots := 20, locals := 78 }) (va_Pc [.ref m0, .int 9] (fun U => U.heap.size = sz ∧ va_P (dC, dI) vwCl [(m0, .inr (12, [.int 0, .ref l1, .ref l2, .int 0, .int 0, .int 0, .long 0])), (l1, .inr (1, [.int 0, .ref a0, .int 0])), (l2, .inr (1, [.int 0, .ref a0, .int 0]))] U.heap ∧ va_K (dC, dI) vwCl [] U ∧ va_D (fun _ => True) [(m0, .inr (12, [.int 0, .ref l1, .ref l2, .int 0, .int 0, .int 0, .long 0])), (l1, .inr (1, [.int 0, .ref a0, .int 0])), (l2, .inr (1, [.int 0, .ref a0, .int 0]))] ∧ zB a0 (va_A [(m0, .inr (12, [.int 0, .ref l1, .ref l2, .int 0, .int 0, .int 0, .long 0])), (l1, .inr (1, [.int 0, .ref a0, .int 0])), (l2, .inr (1, [.int 0, .ref a0, .int 0]))] sz) U U.heap)) (va_Qi (fun (r : Int32) (_ : Unit) => r = 0) (fun _ t => va_P (dC, dI) vwCl [(m0, .inr (12, [.int 0, .ref l1, .ref l2, .int 0, .int 0, .int 0, .long 0]))] t.heap ∧ va_K (dC, dI) vwCl [] t ∧ va_D (va_A [(m0, .inr (12, [.int 0, .ref l1, .ref l2, .int 0, .int 0, .int 0, .long 0])), (l1, .inr (1, [.int 0, .ref a0, .int 0])), (l2, .inr (1, [.int 0, .ref a0, .int 0]))] sz) [(m0, .inr (12, [.int 0, .ref l1, .ref l2, .int 0, .int 0, .int 0, .long 0]))]) (va_A [(m0, .inr (12, [.int 0, .ref l1, .ref l2, .int 0, .int 0, .int 0, .long 0])), (l1, .inr (1, [.int 0, .ref a0, .int 0])), (l2, .inr (1, [.int 0, .ref a0, .int 0]))] sz)) 3 20 (va_A [(m0, .inr (12, [.int 0, .ref l1, .ref l2, .int 0, .int 0, .int 0, .long 0])), (l1, .inr (1, [.int 0, .ref a0, .int 0])), (l2, .inr (1, [.int 0, .ref a0, .int 0]))] sz) := by
  refine Met.ofW (cc := cX10_many) (maxL := 2) (ret := (some .int)) (by decide) rfl ?_
  intro p e s m args below meth c s₁ B hml hv
  obtain ⟨rfl, hsz, hP, hK, hD0, hZ⟩ := hv
  have hx := B.exec
  have hb := B.bytes
  have hr := B.returns
  have hts := atoms_spec (ws := zs_c_X10_many_9) B.pre
  have hown : s.vm.findClass RX10 = some m.cls := findClass_of_methodNamed B.named
  have hlocks := B.notSynchronized
  have hiX10 : ∀ w ∈ wsX100, w ∈ zs_c_X10_many_9 := by decide +kernel
  subst hsz
  have hD := hD0.self (sz := s.heap.size)
  generalize hAe : va_A [(m0, .inr (12, [.int 0, .ref l1, .ref l2, .int 0, .int 0, .int 0, .long 0])), (l1, .inr (1, [.int 0, .ref a0, .int 0])), (l2, .inr (1, [.int 0, .ref a0, .int 0]))] s.heap.size = A at hD hZ ⊢
  have hA : ∀ q : Nat, s.heap.size ≤ q → A q := fun q h => by rw [← hAe]; exact Or.inr h
  have hS : va_S A s.heap s.heap [] := va_S.rf
  have hl := lv_entry ([.ref m0, .int 9]) (n := 2) (Nat.le_of_ble_eq_true rfl)
  rw [lg_entry_eq]
  generalize (lg_sl ([.ref m0, .int 9]) ++ List.replicate (2 - (lg_sl ([.ref m0, .int 9])).length) Slot.unset).toArray = ls at hl ⊢
  have hl : lv_has ls 2 [(0, .ref m0), (1, .int 9)] := hl
  refine lv_aload_n hx hb dX10_many_0 rfl (lv_at hl 0 rfl) ?_
  refine lv_iconst (v := 0) hx hb dX10_many_1 (by decide) ?_
  refine va_put (D := (dC, dI)) (ci := 12) (v := .int 0) (ty := .int) (C := RX10) (T := TX10) (N := 7) hx hb hts hiX10 tyX10 tyX10_ok nmX10 hown hK hP hD hS 0 rfl rfl 0 (by decide) (hts (.fieldLink RX10 19 "HaltingaleModel" "thrown" "I") (by decide +kernel)) (fun _ h9 => h9) rfl (by decide +kernel) rfl rfl (Nat.le_of_ble_eq_true rfl) dX10_many_2 (fun H locs hP hD hS => ?_)
  have hP : va_P (dC, dI) vwCl [(m0, .inr (12, [.int 0, .ref l1, .ref l2, .int 0, .int 0, .int 0, .long 0])), (l1, .inr (1, [.int 0, .ref a0, .int 0])), (l2, .inr (1, [.int 0, .ref a0, .int 0]))] H := hP
  have hD : va_D A [(m0, .inr (12, [.int 0, .ref l1, .ref l2, .int 0, .int 0, .int 0, .long 0])), (l1, .inr (1, [.int 0, .ref a0, .int 0])), (l2, .inr (1, [.int 0, .ref a0, .int 0]))] := hD
  refine lv_iload_n hx hb dX10_many_5 rfl (lv_at hl 1 rfl) ?_
  refine lv_iconst (v := 0) hx hb dX10_many_6 (by decide) ?_
  refine lv_bipush (v := 10) hx hb dX10_many_7 (by decide) ?_
  have hPc := hP.sub (ws' := []) [] rfl
  have hDc := hD.sub (ws' := []) [] (by decide) rfl
  have hKc := hK.sub (tys' := []) [] rfl
  have hFc := va_free (wc := []) hD hS hA [] rfl
  have hZc := ((hZ.kept hS.2.1).narrow hFc)
  refine va_calli (va_runS (As := [.int 9, .int 0, .int 10]) (rest := []) ⟨hx, hb, hml, hown, hts⟩ (c_X10_is l hnt dC dI a0 9 0 10 H.size ) (va_cwS 3 hts (goodIn_of _ (by decide +kernel)) rfl rfl rfl (by decide +kernel) ⟨Nat.le_of_ble_eq_true rfl, Nat.le_of_ble_eq_true rfl⟩) ⟨fun a U g mk q => by obtain ⟨q0, q1, qP, qK, qD, qZ⟩ := q; exact ⟨q0, q1, qP, va_K.moved (u := U) (U := U.calling g mk a) (Vm.Alike.refl U.vm) qK, qD, qZ.call⟩, fun U hU hW => ⟨rfl, by rw [hU], by rw [hU]; exact hPc, va_K.moved hW.alike hKc, hDc.weaken (fun _ _ _ _ => trivial), by rw [hU]; exact hZc.warm hW⟩⟩ rfl rfl hl.1 rfl (lv_room (Nat.le_of_ble_eq_true rfl)) dX10_many_9 ⟨Nat.le_of_ble_eq_true rfl, Nat.le_of_ble_eq_true rfl⟩) hS (fun q _ h => hFc q h) hFc (fun r_1 u t H1 locs ht hvm hw hB hz1 hk1 hS => ?_)
  obtain ⟨hP1, hK1, hD1⟩ := hB
  rw [ht] at hP1
  have hK1 := va_K.moved hvm.symm hK1
  obtain ⟨hP, hD⟩ := va_join (wr := [(m0, .inr (12, [.int 0, .ref l1, .ref l2, .int 0, .int 0, .int 0, .long 0])), (l1, .inr (1, [.int 0, .ref a0, .int 0])), (l2, .inr (1, [.int 0, .ref a0, .int 0]))]) (w1 := []) hP hD [] [0, 1, 2] rfl rfl (by decide) (by decide) hk1 hFc hP1 hD1
  have hK := (hK.sub (tys' := []) [] rfl).app hK1
  generalize H1 = H at hP hS ⊢
  have hP : va_P (dC, dI) vwCl [(m0, .inr (12, [.int 0, .ref l1, .ref l2, .int 0, .int 0, .int 0, .long 0])), (l1, .inr (1, [.int 0, .ref a0, .int 0])), (l2, .inr (1, [.int 0, .ref a0, .int 0]))] H := hP
  have hD : va_D A [(m0, .inr (12, [.int 0, .ref l1, .ref l2, .int 0, .int 0, .int 0, .long 0])), (l1, .inr (1, [.int 0, .ref a0, .int 0])), (l2, .inr (1, [.int 0, .ref a0, .int 0]))] := hD
  have hK : va_K (dC, dI) vwCl [] s := hK
  refine W.widen (k := 0) (n := 0) (Nat.le_of_ble_eq_true rfl) (Nat.le_of_ble_eq_true rfl) ?_
  obtain rfl : r_1 = 1 := hw.trans (by decide)
  refine lv_if_eq (tgt := 23) hx hb dX10_many_12 (by decide) (fun c_2 => ?_) (fun c_2 => ?_)
  · (first | exact absurd c_2 (by decide) | exact absurd (by decide) c_2)
  refine lv_aload_n hx hb dX10_many_15 rfl (lv_at hl 0 rfl) ?_
  refine lv_iload_n hx hb dX10_many_16 rfl (lv_at hl 1 rfl) ?_
  have hPc := hP.sub (ws' := [(m0, .inr (12, [.int 0, .ref l1, .ref l2, .int 0, .int 0, .int 0, .long 0])), (l1, .inr (1, [.int 0, .ref a0, .int 0])), (l2, .inr (1, [.int 0, .ref a0, .int 0]))]) [0, 1, 2] rfl
  have hDc := hD.sub (ws' := [(m0, .inr (12, [.int 0, .ref l1, .ref l2, .int 0, .int 0, .int 0, .long 0])), (l1, .inr (1, [.int 0, .ref a0, .int 0])), (l2, .inr (1, [.int 0, .ref a0, .int 0]))]) [0, 1, 2] (by decide) rfl
  have hKc := hK.sub (tys' := []) [] rfl
  have hFc := va_free (wc := [(m0, .inr (12, [.int 0, .ref l1, .ref l2, .int 0, .int 0, .int 0, .long 0])), (l1, .inr (1, [.int 0, .ref a0, .int 0])), (l2, .inr (1, [.int 0, .ref a0, .int 0]))]) hD hS hA [0, 1, 2] rfl
  have hZc := ((hZ.kept hS.2.1).narrow hFc)
  refine va_calli (va_runV (As := [.int 9]) (rest := []) ⟨hx, hb, hml, hown, hts⟩ (c_X10_manyNow_9 l hnt dC dI a0 m0 l1 l2 0 H.size ) (cwV 1 hts (goodIn_of _ (by decide +kernel)) rfl rfl rfl (by decide +kernel) ⟨Nat.le_of_ble_eq_true rfl, Nat.le_of_ble_eq_true rfl⟩) ⟨fun a U g mk q => by obtain ⟨q0, q1, qP, qK, qD, qZ⟩ := q; exact ⟨q0, q1, qP, va_K.moved (u := U) (U := U.calling g mk a) (Vm.Alike.refl U.vm) qK, qD, qZ.call⟩, va_recv hKc hPc (ci := 12) (q0 := 0) rfl rfl, fun U hU hW => ⟨rfl, by rw [hU], by rw [hU]; exact hPc, va_K.moved hW.alike hKc, hDc.weaken (fun _ _ _ _ => trivial), by rw [hU]; exact hZc.warm hW⟩⟩ rfl rfl hl.1 rfl (lv_room (Nat.le_of_ble_eq_true rfl)) dX10_many_17 ⟨Nat.le_of_ble_eq_true rfl, Nat.le_of_ble_eq_true rfl⟩) hS (fun q _ h => hFc q h) hFc (fun r_3 u t H1 locs ht hvm hw hB hz1 hk1 hS => ?_)
  obtain ⟨hP1, hK1, hD1⟩ := hB
  rw [ht] at hP1
  have hK1 := va_K.moved hvm.symm hK1
  obtain ⟨hP, hD⟩ := va_join (wr := []) (w1 := [(m0, .inr (12, [.int 0, .ref l1, .ref l2, .int 0, .int 0, .int 0, .long 0])), (l1, .inr (1, [.int 0, .ref a0, .int 0])), (l2, .inr (1, [.int 0, .ref a0, .int 0]))]) hP hD [0, 1, 2] [] rfl rfl (by decide) (by decide) hk1 hFc hP1 hD1
  have hK := (hK.sub (tys' := []) [] rfl).app hK1
  generalize H1 = H at hP hS ⊢
  have hP : va_P (dC, dI) vwCl [(m0, .inr (12, [.int 0, .ref l1, .ref l2, .int 0, .int 0, .int 0, .long 0])), (l1, .inr (1, [.int 0, .ref a0, .int 0])), (l2, .inr (1, [.int 0, .ref a0, .int 0]))] H := hP
  have hD : va_D A [(m0, .inr (12, [.int 0, .ref l1, .ref l2, .int 0, .int 0, .int 0, .long 0])), (l1, .inr (1, [.int 0, .ref a0, .int 0])), (l2, .inr (1, [.int 0, .ref a0, .int 0]))] := hD
  have hK : va_K (dC, dI) vwCl [] s := hK
  refine W.widen (k := 3) (n := 20) (Nat.le_of_ble_eq_true rfl) (Nat.le_of_ble_eq_true rfl) ?_
  obtain rfl : r_3 = 0 := hw
  refine lv_goto (tgt := 28) hx hb dX10_many_20 (by decide) ?_
  have hP9 := hP.sub (ws' := [(m0, .inr (12, [.int 0, .ref l1, .ref l2, .int 0, .int 0, .int 0, .long 0]))]) [0] rfl
  have hD9 := hD.sub (ws' := [(m0, .inr (12, [.int 0, .ref l1, .ref l2, .int 0, .int 0, .int 0, .long 0]))]) [0] (by decide) rfl
  have hK9 := hK.sub (tys' := []) [] rfl
  refine W.widen (k := 3) (n := 20) (Nat.le_of_ble_eq_true rfl) (Nat.le_of_ble_eq_true rfl) ?_
  exact W.iret (v := 0) hx hb hr (fun t ht hW => ⟨⟨0, (), rfl, rfl, ⟨by rw [ht]; exact hP9, va_K.moved hW.alike hK9, hD9⟩⟩, hS.F ht⟩) hS.2.2 dX10_many_28

def zs_c_X10_many_10 : List Cond := .code yX10_many cX10_many 2 (some .int) :: (([.fieldLink RX10 19 "HaltingaleModel" "thrown" "I", .code yX10_is cX10_is 3 (some .boolean), .methodLink RX10 27 yX10_is, .static yX10_is, .initialized RX10, .code yX10_manyNow cX10_manyNow 6 (some .int), .arrayClass .int, .fieldLink RX10 10 "HaltingaleModel" "machines" "Ljava/util/ArrayList;", .code yJx4a65c_iterator_32c93 cJx4a65c_iterator_32c93 1 (some (.object "java/util/Iterator")), .classLink RJx4a65c 267 RJx35411, .instantiable RJx35411 4, .initialized RJx35411, .code yJx35411_init_45d68 cJx35411_init_45d68 2 none, .fieldLink RJx35411 1 "java/util/ArrayList$Itr" "this$0" "Ljava/util/ArrayList;", .methodLink RJx35411 7 objectInit, .instanceMethod objectInit, .code objectInit ⟨#[0xb1]⟩ 1 none, .fieldLink RJx35411 13 "java/util/ArrayList$Itr" "lastRet" "I", .sameField "java/util/ArrayList" "java/util/AbstractList" "modCount" "I", .fieldLink RJx35411 17 "java/util/ArrayList" "modCount" "I", .fieldLink RJx35411 22 "java/util/ArrayList$Itr" "expectedModCount" "I", .methodLink RJx4a65c 269 yJx35411_init_45d68, .instanceMethod yJx35411_init_45d68, .methodLink RX10 158 yJx4a65c_iterator_32c93, .instanceMethod yJx4a65c_iterator_32c93, .initialized RJx4a65c, .selects RJx4a65c yJx4a65c_iterator_32c93 yJx4a65c_iterator_32c93, .code yJx35411_hasNext_aae02 cJx35411_hasNext_aae02 1 (some .boolean), .fieldLink RJx35411 25 "java/util/ArrayList$Itr" "cursor" "I", .methodLink RX10 162 ⟨"java/util/Iterator", "hasNext", "()Z"⟩, .instanceMethod yJx35411_hasNext_aae02, .selects RJx35411 ⟨"java/util/Iterator", "hasNext", "()Z"⟩ yJx35411_hasNext_aae02, .code yJx4a65c_size_8abf5 cJx4a65c_size_8abf5 1 (some .int), .fieldLink RJx4a65c 48 "java/util/ArrayList" "size" "I", .methodLink RX10 23 yJx4a65c_size_8abf5, .instanceMethod yJx4a65c_size_8abf5, .selects RJx4a65c yJx4a65c_size_8abf5 yJx4a65c_size_8abf5, .fieldLink RX10 16 "HaltingaleModel" "tags" "Ljava/util/ArrayList;", .fieldLink RX10 191 "HaltingaleModel" "given" "I", .fieldLink RX10 194 "HaltingaleModel" "taken" "I", .fieldLink RX10 67 "HaltingaleModel" "back" "I", .methodLink RX10 258 yX10_manyNow, .instanceMethod yX10_manyNow, .selects RX10 yX10_manyNow yX10_manyNow] : List Cond) ++ wsX100 ++ wsJx354110 ++ wsJx4a65c0)
set_option maxHeartbeats 4000000 in
set_option maxRecDepth 100000 in
/-- many of 10 -/
theorem c_X10_many_10 (l : Launch) (hnt : l.stackTraces = false) (dC : Nat → ClassId) (dI : Nat → Nat → Nat) (a0 : Nat) (m0 : Nat) (l1 : Nat) (l2 : Nat) (sz : Nat)  : Met l yX10_many zs_c_X10_many_10 ({ frames := 4, cells := 3, slots := 20, locals := 78 }) (va_Pc [.ref m0, .int 10] (fun U => U.heap.size = sz ∧ va_P (dC, dI) vwCl [(m0, .inr (12, [.int 0, .ref l1, .ref l2, .int 0, .int 0, .int 0, .long 0])), (l1, .inr (1, [.int 0, .ref a0, .int 0])), (l2, .inr (1, [.int 0, .ref a0, .int 0]))] U.heap ∧ va_K (dC, dI) vwCl [] U ∧ va_D (fun _ => True) [(m0, .inr (12, [.int 0, .ref l1, .ref l2, .int 0, .int 0, .int 0, .long 0])), (l1, .inr (1, [.int 0, .ref a0, .int 0])), (l2, .inr (1, [.int 0, .ref a0, .int 0]))] ∧ zB a0 (va_A [(m0, .inr (12, [.int 0, .ref l1, .ref l2, .int 0, .int 0, .int 0, .long 0])), (l1, .inr (1, [.int 0, .ref a0, .int 0])), (l2, .inr (1, [.int 0, .ref a0, .int 0]))] sz) U U.heap)) (va_Qi (fun (r : Int32) (_ : Unit) => r = 0) (fun _ t => va_P (dC, dI) vwCl [(m0, .inr (12, [.int 0, .ref l1, .ref l2, .int 0, .int 0, .int 0, .long 0]))] t.heap ∧ va_K (dC, dI) vwCl [] t ∧ va_D (va_A [(m0, .inr (12, [.int 0, .ref l1, .ref l2, .int 0, .int 0, .int 0, .long 0])), (l1, .inr (1, [.int 0, .ref a0, .int 0])), (l2, .inr (1, [.int 0, .ref a0, .int 0]))] sz) [(m0, .inr (12, [.int 0, .ref l1, .ref l2, .int 0, .int 0, .int 0, .long 0]))]) (va_A [(m0, .inr (12, [.int 0, .ref l1, .ref l2, .int 0, .int 0, .int 0, .long 0])), (l1, .inr (1, [.int 0, .ref a0, .int 0])), (l2, .inr (1, [.int 0, .ref a0, .int 0]))] sz)) 3 20 (va_A [(m0, .inr (12, [.int 0, .ref l1, .ref l2, .int 0, .int 0, .int 0, .long 0])), (l1, .inr (1, [.int 0, .ref a0, .int 0])), (l2, .inr (1, [.int 0, .ref a0, .int 0]))] sz) := by
  refine Met.ofW (cc := cX10_many) (maxL := 2) (ret := (some .int)) (by decide) rfl ?_
  intro p e s m args below meth c s₁ B hml hv
  obtain ⟨rfl, hsz, hP, hK, hD0, hZ⟩ := hv
  have hx := B.exec
  have hb := B.bytes
  have hr := B.returns
  have hts := atoms_spec (ws := zs_c_X10_many_10) B.pre
  have hown : s.vm.findClass RX10 = some m.cls := findClass_of_methodNamed B.named
  have hlocks := B.notSynchronized
  have hiX10 : ∀ w ∈ wsX100, w ∈ zs_c_X10_many_10 := by decide +kernel
  subst hsz
  have hD := hD0.self (sz := s.heap.size)
  generalize hAe : va_A [(m0, .inr (12, [.int 0, .ref l1, .ref l2, .int 0, .int 0, .int 0, .long 0])), (l1, .inr (1, [.int 0, .ref a0, .int 0])), (l2, .inr (1, [.int 0, .ref a0, .int 0]))] s.heap.size = A at hD hZ ⊢
  have hA : ∀ q : Nat, s.heap.size ≤ q → A q := fun q h => by rw [← hAe]; exact Or.inr h
  have hS : va_S A s.heap s.heap [] := va_S.rf
  have hl := lv_entry ([.ref m0, .int 10]) (n := 2) (Nat.le_of_ble_eq_true rfl)
  rw [lg_entry_eq]
  generalize (lg_sl ([.ref m0, .int 10]) ++ List.replicate (2 - (lg_sl ([.ref m0, .int 10])).length) Slot.unset).toArray = ls at hl ⊢
  have hl : lv_has ls 2 [(0, .ref m0), (1, .int 10)] := hl
  refine lv_aload_n hx hb dX10_many_0 rfl (lv_at hl 0 rfl) ?_
  refine lv_iconst (v := 0) hx hb dX10_many_1 (by decide) ?_
  refine va_put (D := (dC, dI)) (ci := 12) (v := .int 0) (ty := .int) (C := RX10) (T := TX10) (N := 7) hx hb hts hiX10 tyX10 tyX10_ok nmX10 hown hK hP hD hS 0 rfl rfl 0 (by decide) (hts (.fieldLink RX10 19 "HaltingaleModel" "thrown" "I") (by decide +kernel)) (fun _ h9 => h9) rfl (by decide +kernel) rfl rfl (Nat.le_of_ble_eq_true rfl) dX10_many_2 (fun H locs hP hD hS => ?_)
  have hP : va_P (dC, dI) vwCl [(m0, .inr (12, [.int 0, .ref l1, .ref l2, .int 0, .int 0, .int 0, .long 0])), (l1, .inr (1, [.int 0, .ref a0, .int 0])), (l2, .inr (1, [.int 0, .ref a0, .int 0]))] H := hP
  have hD : va_D A [(m0, .inr (12, [.int 0, .ref l1, .ref l2, .int 0, .int 0, .int 0, .long 0])), (l1, .inr (1, [.int 0, .ref a0, .int 0])), (l2, .inr (1, [.int 0, .ref a0, .int 0]))] := hD
  refine lv_iload_n hx hb dX10_many_5 rfl (lv_at hl 1 rfl) ?_
  refine lv_iconst (v := 0) hx hb dX10_many_6 (by decide) ?_
  refine lv_bipush (v := 10) hx hb dX10_many_7 (by decide) ?_
  have hPc := hP.sub (ws' := []) [] rfl
  have hDc := hD.sub (ws' := []) [] (by decide) rfl
  have hKc := hK.sub (tys' := []) [] rfl
  have hFc := va_free (wc := []) hD hS hA [] rfl
  have hZc := ((hZ.kept hS.2.1).narrow hFc)
  refine va_calli (va_runS (As := [.int 10, .int 0, .int 10]) (rest := []) ⟨hx, hb, hml, hown, hts⟩ (c_X10_is l hnt dC dI a0 10 0 10 H.size ) (va_cwS 3 hts (goodIn_of _ (by decide +kernel)) rfl rfl rfl (by decide +kernel) ⟨Nat.le_of_ble_eq_true rfl, Nat.le_of_ble_eq_true rfl⟩) ⟨fun a U g mk q => by obtain ⟨q0, q1, qP, qK, qD, qZ⟩ := q; exact ⟨q0, q1, qP, va_K.moved (u := U) (U := U.calling g mk a) (Vm.Alike.refl U.vm) qK, qD, qZ.call⟩, fun U hU hW => ⟨rfl, by rw [hU], by rw [hU]; exact hPc, va_K.moved hW.alike hKc, hDc.weaken (fun _ _ _ _ => trivial), by rw [hU]; exact hZc.warm hW⟩⟩ rfl rfl hl.1 rfl (lv_room (Nat.le_of_ble_eq_true rfl)) dX10_many_9 ⟨Nat.le_of_ble_eq_true rfl, Nat.le_of_ble_eq_true rfl⟩) hS (fun q _ h => hFc q h) hFc (fun r_1 u t H1 locs ht hvm hw hB hz1 hk1 hS => ?_)
  obtain ⟨hP1, hK1, hD1⟩ := hB
  rw [ht] at hP1
  have hK1 := va_K.moved hvm.symm hK1
  obtain ⟨hP, hD⟩ := va_join (wr := [(m0, .inr (12, [.int 0, .ref l1, .ref l2, .int 0, .int 0, .int 0, .long 0])), (l1, .inr (1, [.int 0, .ref a0, .int 0])), (l2, .inr (1, [.int 0, .ref a0, .int 0]))]) (w1 := []) hP hD [] [0, 1, 2] rfl rfl (by decide) (by decide) hk1 hFc hP1 hD1
  have hK := (hK.sub (tys' := []) [] rfl).app hK1
  generalize H1 = H at hP hS ⊢
  have hP : va_P (dC, dI) vwCl [(m0, .inr (12, [.int 0, .ref l1, .ref l2, .int 0, .int 0, .int 0, .long 0])), (l1, .inr (1, [.int 0, .ref a0, .int 0])), (l2, .inr (1, [.int 0, .ref a0, .int 0]))] H := hP
  have hD : va_D A [(m0, .inr (12, [.int 0, .ref l1, .ref l2, .int 0, .int 0, .int 0, .long 0])), (l1, .inr (1, [.int 0, .ref a0, .int 0])), (l2, .inr (1, [.int 0, .ref a0, .int 0]))] := hD
  have hK : va_K (dC, dI) vwCl [] s := hK
  refine W.widen (k := 0) (n := 0) (Nat.le_of_ble_eq_true rfl) (Nat.le_of_ble_eq_true rfl) ?_
  obtain rfl : r_1 = 1 := hw.trans (by decide)
  refine lv_if_eq (tgt := 23) hx hb dX10_many_12 (by decide) (fun c_2 => ?_) (fun c_2 => ?_)
  · (first | exact absurd c_2 (by decide) | exact absurd (by decide) c_2)
  refine lv_aload_n hx hb dX10_many_15 rfl (lv_at hl 0 rfl) ?_
  refine lv_iload_n hx hb dX10_many_16 rfl (lv_at hl 1 rfl) ?_
  have hPc := hP.sub (ws' := [(m0, .inr (12, [.int 0, .ref l1, .ref l2, .int 0, .int 0, .int 0, .long 0])), (l1, .inr (1, [.int 0, .ref a0, .int 0])), (l2, .inr (1, [.int 0, .ref a0, .int 0]))]) [0, 1, 2] rfl
  have hDc := hD.sub (ws' := [(m0, .inr (12, [.int 0, .ref l1, .ref l2, .int 0, .int 0, .int 0, .long 0])), (l1, .inr (1, [.int 0, .ref a0, .int 0])), (l2, .inr (1, [.int 0, .ref a0, .int 0]))]) [0, 1, 2] (by decide) rfl
  have hKc := hK.sub (tys' := []) [] rfl
  have hFc := va_free (wc := [(m0, .inr (12, [.int 0, .ref l1, .ref l2, .int 0, .int 0, .int 0, .long 0])), (l1, .inr (1, [.int 0, .ref a0, .int 0])), (l2, .inr (1, [.int 0, .ref a0, .int 0]))]) hD hS hA [0, 1, 2] rfl
  have hZc := ((hZ.kept hS.2.1).narrow hFc)
  refine va_calli (va_runV (As := [.int 10]) (rest := []) ⟨hx, hb, hml, hown, hts⟩ (c_X10_manyNow_10 l hnt dC dI a0 m0 l1 l2 0 H.size ) (cwV 1 hts (goodIn_of _ (by decide +kernel)) rfl rfl rfl (by decide +kernel) ⟨Nat.le_of_ble_eq_true rfl, Nat.le_of_ble_eq_true rfl⟩) ⟨fun a U g mk q => by obtain ⟨q0, q1, qP, qK, qD, qZ⟩ := q; exact ⟨q0, q1, qP, va_K.moved (u := U) (U := U.calling g mk a) (Vm.Alike.refl U.vm) qK, qD, qZ.call⟩, va_recv hKc hPc (ci := 12) (q0 := 0) rfl rfl, fun U hU hW => ⟨rfl, by rw [hU], by rw [hU]; exact hPc, va_K.moved hW.alike hKc, hDc.weaken (fun _ _ _ _ => trivial), by rw [hU]; exact hZc.warm hW⟩⟩ rfl rfl hl.1 rfl (lv_room (Nat.le_of_ble_eq_true rfl)) dX10_many_17 ⟨Nat.le_of_ble_eq_true rfl, Nat.le_of_ble_eq_true rfl⟩) hS (fun q _ h => hFc q h) hFc (fun r_3 u t H1 locs ht hvm hw hB hz1 hk1 hS => ?_)
  obtain ⟨hP1, hK1, hD1⟩ := hB
  rw [ht] at hP1
  have hK1 := va_K.moved hvm.symm hK1
  obtain ⟨hP, hD⟩ := va_join (wr := []) (w1 := [(m0, .inr (12, [.int 0, .ref l1, .ref l2, .int 0, .int 0, .int 0, .long 0])), (l1, .inr (1, [.int 0, .ref a0, .int 0])), (l2, .inr (1, [.int 0, .ref a0, .int 0]))]) hP hD [0, 1, 2] [] rfl rfl (by decide) (by decide) hk1 hFc hP1 hD1
  have hK := (hK.sub (tys' := []) [] rfl).app hK1
  generalize H1 = H at hP hS ⊢
  have hP : va_P (dC, dI) vwCl [(m0, .inr (12, [.int 0, .ref l1, .ref l2, .int 0, .int 0, .int 0, .long 0])), (l1, .inr (1, [.int 0, .ref a0, .int 0])), (l2, .inr (1, [.int 0, .ref a0, .int 0]))] H := hP
  have hD : va_D A [(m0, .inr (12, [.int 0, .ref l1, .ref l2, .int 0, .int 0, .int 0, .long 0])), (l1, .inr (1, [.int 0, .ref a0, .int 0])), (l2, .inr (1, [.int 0, .ref a0, .int 0]))] := hD
  have hK : va_K (dC, dI) vwCl [] s := hK
  refine W.widen (k := 3) (n := 20) (Nat.le_of_ble_eq_true rfl) (Nat.le_of_ble_eq_true rfl) ?_
  obtain rfl : r_3 = 0 := hw
  refine lv_goto (tgt := 28) hx hb dX10_many_20 (by decide) ?_
  have hP9 := hP.sub (ws' := [(m0, .inr (12, [.int 0, .ref l1, .ref l2, .int 0, .int 0, .int 0, .long 0]))]) [0] rfl
  have hD9 := hD.sub (ws' := [(m0, .inr (12, [.int 0, .ref l1, .ref l2, .int 0, .int 0, .int 0, .long 0]))]) [0] (by decide) rfl
  have hK9 := hK.sub (tys' := []) [] rfl
  refine W.widen (k := 3) (n := 20) (Nat.le_of_ble_eq_true rfl) (Nat.le_of_ble_eq_true rfl) ?_
  exact W.iret (v := 0) hx hb hr (fun t ht hW => ⟨⟨0, (), rfl, rfl, ⟨by rw [ht]; exact hP9, va_K.moved hW.alike hK9, hD9⟩⟩, hS.F ht⟩) hS.2.2 dX10_many_28

def zs_c_X10_meanStop : List Cond := .code yX10_meanStop cX10_meanStop 5 (some .double) :: (([.fieldLink RX10 19 "HaltingaleModel" "thrown" "I", .fieldLink RX10 10 "HaltingaleModel" "machines" "Ljava/util/ArrayList;", .code yJx4a65c_iterator_32c93 cJx4a65c_iterator_32c93 1 (some (.object "java/util/Iterator")), .classLink RJx4a65c 267 RJx35411, .instantiable RJx35411 4, .initialized RJx35411, .code yJx35411_init_45d68 cJx35411_init_45d68 2 none, .fieldLink RJx35411 1 "java/util/ArrayList$Itr" "this$0" "Ljava/util/ArrayList;", .methodLink RJx35411 7 objectInit, .instanceMethod objectInit, .code objectInit ⟨#[0xb1]⟩ 1 none, .fieldLink RJx35411 13 "java/util/ArrayList$Itr" "lastRet" "I", .sameField "java/util/ArrayList" "java/util/AbstractList" "modCount" "I", .fieldLink RJx35411 17 "java/util/ArrayList" "modCount" "I", .fieldLink RJx35411 22 "java/util/ArrayList$Itr" "expectedModCount" "I", .methodLink RJx4a65c 269 yJx35411_init_45d68, .instanceMethod yJx35411_init_45d68, .methodLink RX10 158 yJx4a65c_iterator_32c93, .instanceMethod yJx4a65c_iterator_32c93, .initialized RJx4a65c, .selects RJx4a65c yJx4a65c_iterator_32c93 yJx4a65c_iterator_32c93, .code yJx35411_hasNext_aae02 cJx35411_hasNext_aae02 1 (some .boolean), .fieldLink RJx35411 25 "java/util/ArrayList$Itr" "cursor" "I", .methodLink RX10 162 ⟨"java/util/Iterator", "hasNext", "()Z"⟩, .instanceMethod yJx35411_hasNext_aae02, .selects RJx35411 ⟨"java/util/Iterator", "hasNext", "()Z"⟩ yJx35411_hasNext_aae02] : List Cond) ++ wsX100 ++ wsJx354110 ++ wsJx4a65c0)
set_option maxHeartbeats 4000000 in
set_option maxRecDepth 100000 in
/-- no mean -/
theorem c_X10_meanStop (l : Launch) (hnt : l.stackTraces = false) (dC : Nat → ClassId) (dI : Nat → Nat → Nat) (a0 : Nat) (m0 : Nat) (l1 : Nat) (l2 : Nat) (sz : Nat)  : Met l yX10_meanStop zs_c_X10_meanStop ({ frames := 3, cells := 1, slots := 4, locals := 53 }) (va_Pc [.ref m0] (fun U => U.heap.size = sz ∧ va_P (dC, dI) vwCl [(m0, .inr (12, [.int 0, .ref l1, .ref l2, .int 0, .int 0, .int 0, .long 0])), (l1, .inr (1, [.int 0, .ref a0, .int 0]))] U.heap ∧ va_K (dC, dI) vwCl [] U ∧ va_D (fun _ => True) [(m0, .inr (12, [.int 0, .ref l1, .ref l2, .int 0, .int 0, .int 0, .long 0])), (l1, .inr (1, [.int 0, .ref a0, .int 0]))] ∧ zB a0 (va_A [(m0, .inr (12, [.int 0, .ref l1, .ref l2, .int 0, .int 0, .int 0, .long 0])), (l1, .inr (1, [.int 0, .ref a0, .int 0]))] sz) U U.heap)) (va_Qd (fun (r : UInt64) (_ : Unit) => r = FP.dconst0) (fun _ t => va_P (dC, dI) vwCl [(m0, .inr (12, [.int 0, .ref l1, .ref l2, .int 0, .int 0, .int 0, .long 0]))] t.heap ∧ va_K (dC, dI) vwCl [] t ∧ va_D (va_A [(m0, .inr (12, [.int 0, .ref l1, .ref l2, .int 0, .int 0, .int 0, .long 0])), (l1, .inr (1, [.int 0, .ref a0, .int 0]))] sz) [(m0, .inr (12, [.int 0, .ref l1, .ref l2, .int 0, .int 0, .int 0, .long 0]))]) (va_A [(m0, .inr (12, [.int 0, .ref l1, .ref l2, .int 0, .int 0, .int 0, .long 0])), (l1, .inr (1, [.int 0, .ref a0, .int 0]))] sz)) 1 4 (va_A [(m0, .inr (12, [.int 0, .ref l1, .ref l2, .int 0, .int 0, .int 0, .long 0])), (l1, .inr (1, [.int 0, .ref a0, .int 0]))] sz) := by
  refine Met.ofW (cc := cX10_meanStop) (maxL := 5) (ret := (some .double)) (by decide) rfl ?_
  intro p e s m args below meth c s₁ B hml hv
  obtain ⟨rfl, hsz, hP, hK, hD0, hZ⟩ := hv
  have hx := B.exec
  have hb := B.bytes
  have hr := B.returns
  have hts := atoms_spec (ws := zs_c_X10_meanStop) B.pre
  have hown : s.vm.findClass RX10 = some m.cls := findClass_of_methodNamed B.named
  have hlocks := B.notSynchronized
  have hiX10 : ∀ w ∈ wsX100, w ∈ zs_c_X10_meanStop := by decide +kernel
  subst hsz
  have hD := hD0.self (sz := s.heap.size)
  generalize hAe : va_A [(m0, .inr (12, [.int 0, .ref l1, .ref l2, .int 0, .int 0, .int 0, .long 0])), (l1, .inr (1, [.int 0, .ref a0, .int 0]))] s.heap.size = A at hD hZ ⊢
  have hA : ∀ q : Nat, s.heap.size ≤ q → A q := fun q h => by rw [← hAe]; exact Or.inr h
  have hS : va_S A s.heap s.heap [] := va_S.rf
  have hl := lv_entry ([.ref m0]) (n := 5) (Nat.le_of_ble_eq_true rfl)
  rw [lg_entry_eq]
  generalize (lg_sl ([.ref m0]) ++ List.replicate (5 - (lg_sl ([.ref m0])).length) Slot.unset).toArray = ls at hl ⊢
  have hl : lv_has ls 5 [(0, .ref m0)] := hl
  refine lv_aload_n hx hb dX10_meanStop_0 rfl (lv_at hl 0 rfl) ?_
  refine lv_iconst (v := 0) hx hb dX10_meanStop_1 (by decide) ?_
  refine va_put (D := (dC, dI)) (ci := 12) (v := .int 0) (ty := .int) (C := RX10) (T := TX10) (N := 7) hx hb hts hiX10 tyX10 tyX10_ok nmX10 hown hK hP hD hS 0 rfl rfl 0 (by decide) (hts (.fieldLink RX10 19 "HaltingaleModel" "thrown" "I") (by decide +kernel)) (fun _ h9 => h9) rfl (by decide +kernel) rfl rfl (Nat.le_of_ble_eq_true rfl) dX10_meanStop_2 (fun H locs hP hD hS => ?_)
  have hP : va_P (dC, dI) vwCl [(m0, .inr (12, [.int 0, .ref l1, .ref l2, .int 0, .int 0, .int 0, .long 0])), (l1, .inr (1, [.int 0, .ref a0, .int 0]))] H := hP
  have hD : va_D A [(m0, .inr (12, [.int 0, .ref l1, .ref l2, .int 0, .int 0, .int 0, .long 0])), (l1, .inr (1, [.int 0, .ref a0, .int 0]))] := hD
  refine lv_iconst (v := 0) hx hb dX10_meanStop_5 (by decide) ?_
  refine lv_istore_n (lv' := [(1, .int 0), (0, .ref m0)]) hx hb dX10_meanStop_6 rfl hl (by decide) rfl (fun ls hl => ?_)
  refine lv_iconst (v := 0) hx hb dX10_meanStop_7 (by decide) ?_
  refine lv_istore_n (lv' := [(2, .int 0), (1, .int 0), (0, .ref m0)]) hx hb dX10_meanStop_8 rfl hl (by decide) rfl (fun ls hl => ?_)
  refine lv_aload_n hx hb dX10_meanStop_9 rfl (lv_at hl 2 rfl) ?_
  refine va_get (D := (dC, dI)) (ci := 12) (v := .ref l1) (C := RX10) (T := TX10) (N := 7) hx hb hts hiX10 hown hK hP 0 rfl rfl 1 (by decide) (hts (.fieldLink RX10 10 "HaltingaleModel" "machines" "Ljava/util/ArrayList;") (by decide +kernel)) (fun _ h9 => h9) rfl dX10_meanStop_10 ?_
  have hPc := hP.sub (ws' := [(l1, .inr (1, [.int 0, .ref a0, .int 0]))]) [1] rfl
  have hDc := hD.sub (ws' := [(l1, .inr (1, [.int 0, .ref a0, .int 0]))]) [1] (by decide) rfl
  have hKc := hK.sub (tys' := []) [] rfl
  have hFc := va_free (wc := [(l1, .inr (1, [.int 0, .ref a0, .int 0]))]) hD hS hA [1] rfl
  have hZc := ((hZ.kept hS.2.1).narrow hFc)
  refine va_callr (va_runV (As := []) (rest := []) ⟨hx, hb, hml, hown, hts⟩ (c_Jx4a65c_iterator_32c93 l hnt dC dI a0 l1 H.size ) (cwV 0 hts (goodIn_of _ (by decide +kernel)) rfl rfl rfl (by decide +kernel) ⟨Nat.le_of_ble_eq_true rfl, Nat.le_of_ble_eq_true rfl⟩) ⟨fun a U g mk q => by obtain ⟨q0, q1, qP, qK, qD, qZ⟩ := q; exact ⟨q0, q1, qP, va_K.moved (u := U) (U := U.calling g mk a) (Vm.Alike.refl U.vm) qK, qD, qZ.call⟩, va_recv hKc hPc (ci := 1) (q0 := 0) rfl rfl, fun U hU hW => ⟨rfl, by rw [hU], by rw [hU]; exact hPc, va_K.moved hW.alike hKc, hDc.weaken (fun _ _ _ _ => trivial), by rw [hU]; exact hZc.warm hW⟩⟩ rfl rfl hl.1 rfl (lv_room (Nat.le_of_ble_eq_true rfl)) dX10_meanStop_13 ⟨Nat.le_of_ble_eq_true rfl, Nat.le_of_ble_eq_true rfl⟩) hS (fun q _ h => hFc q h) hFc (fun u r_1 t H1 locs ht hvm hw hB hz1 hk1 hS => ?_)
  obtain ⟨hP1, hK1, hD1⟩ := hB
  rw [ht] at hP1
  have hK1 := va_K.moved hvm.symm hK1
  obtain ⟨hP, hD⟩ := va_join (wr := [(m0, .inr (12, [.int 0, .ref l1, .ref l2, .int 0, .int 0, .int 0, .long 0]))]) (w1 := [(r_1, .inr (0, [.int 0, .int (-1), .int 0, .ref l1])), (l1, .inr (1, [.int 0, .ref a0, .int 0]))]) hP hD [1] [0] rfl rfl (by decide) (by decide) hk1 hFc hP1 hD1
  have hK := (hK.sub (tys' := []) [] rfl).app hK1
  generalize H1 = H at hP hS ⊢
  have hP : va_P (dC, dI) vwCl [(m0, .inr (12, [.int 0, .ref l1, .ref l2, .int 0, .int 0, .int 0, .long 0])), (r_1, .inr (0, [.int 0, .int (-1), .int 0, .ref l1])), (l1, .inr (1, [.int 0, .ref a0, .int 0]))] H := hP
  have hD : va_D A [(m0, .inr (12, [.int 0, .ref l1, .ref l2, .int 0, .int 0, .int 0, .long 0])), (r_1, .inr (0, [.int 0, .int (-1), .int 0, .ref l1])), (l1, .inr (1, [.int 0, .ref a0, .int 0]))] := hD
  have hK : va_K (dC, dI) vwCl [] s := hK
  refine W.widen (k := 1) (n := 4) (Nat.le_of_ble_eq_true rfl) (Nat.le_of_ble_eq_true rfl) ?_
  refine lv_astore_n (lv' := [(3, .ref r_1), (2, .int 0), (1, .int 0), (0, .ref m0)]) hx hb dX10_meanStop_16 rfl hl (by decide) rfl (fun ls hl => ?_)
  refine lv_aload_n hx hb dX10_meanStop_17 rfl (lv_at hl 0 rfl) ?_
  have hPc := hP.sub (ws' := [(r_1, .inr (0, [.int 0, .int (-1), .int 0, .ref l1])), (l1, .inr (1, [.int 0, .ref a0, .int 0]))]) [1, 2] rfl
  have hDc := hD.sub (ws' := [(r_1, .inr (0, [.int 0, .int (-1), .int 0, .ref l1])), (l1, .inr (1, [.int 0, .ref a0, .int 0]))]) [1, 2] (by decide) rfl
  have hKc := hK.sub (tys' := []) [] rfl
  have hFc := va_free (wc := [(r_1, .inr (0, [.int 0, .int (-1), .int 0, .ref l1])), (l1, .inr (1, [.int 0, .ref a0, .int 0]))]) hD hS hA [1, 2] rfl
  have hZc := ((hZ.kept hS.2.1).narrow hFc)
  refine va_callFi (va_runF (As := []) (rest := []) (zz_at hK 0 rfl) ⟨hx, hb, hml, hown, hts⟩ (c_Jx35411_hasNext_aae02 l hnt dC dI a0 r_1 l1 H.size ) (va_cwF 0 hts (goodIn_of _ (by decide +kernel)) rfl rfl rfl hZ.fwN (by decide +kernel) ⟨Nat.le_of_ble_eq_true rfl, Nat.le_of_ble_eq_true rfl⟩) ⟨fun a U g mk q => by obtain ⟨q0, q1, qP, qK, qD, qZ⟩ := q; exact ⟨q0, q1, qP, va_K.moved (u := U) (U := U.calling g mk a) (Vm.Alike.refl U.vm) qK, qD, qZ.call⟩, va_recv hKc hPc (ci := 0) (q0 := 0) rfl rfl, fun U hU hW => ⟨rfl, by rw [hU], by rw [hU]; exact hPc, va_K.moved hW.alike hKc, hDc.weaken (fun _ _ _ _ => trivial), by rw [hU]; exact hZc.warm hW⟩⟩ rfl rfl hl.1 rfl (lv_room (Nat.le_of_ble_eq_true rfl)) dX10_meanStop_18 ⟨Nat.le_of_ble_eq_true rfl, Nat.le_of_ble_eq_true rfl⟩) hS (fun q _ h => hFc q h) hFc (fun r_2 u t H1 locs ht hvm hw hB hz1 hk1 hS => ?_)
  obtain ⟨hP1, hK1, hD1⟩ := hB
  rw [ht] at hP1
  have hK1 := va_K.moved hvm.symm hK1
  obtain ⟨hP, hD⟩ := va_join (wr := [(m0, .inr (12, [.int 0, .ref l1, .ref l2, .int 0, .int 0, .int 0, .long 0]))]) (w1 := [(r_1, .inr (0, [.int 0, .int (-1), .int 0, .ref l1])), (l1, .inr (1, [.int 0, .ref a0, .int 0]))]) hP hD [1, 2] [0] rfl rfl (by decide) (by decide) hk1 hFc hP1 hD1
  have hK := (hK.sub (tys' := []) [] rfl).app hK1
  generalize H1 = H at hP hS ⊢
  have hP : va_P (dC, dI) vwCl [(m0, .inr (12, [.int 0, .ref l1, .ref l2, .int 0, .int 0, .int 0, .long 0])), (r_1, .inr (0, [.int 0, .int (-1), .int 0, .ref l1])), (l1, .inr (1, [.int 0, .ref a0, .int 0]))] H := hP
  have hD : va_D A [(m0, .inr (12, [.int 0, .ref l1, .ref l2, .int 0, .int 0, .int 0, .long 0])), (r_1, .inr (0, [.int 0, .int (-1), .int 0, .ref l1])), (l1, .inr (1, [.int 0, .ref a0, .int 0]))] := hD
  have hK : va_K (dC, dI) vwCl [] s := hK
  refine W.widen (k := 1) (n := 4) (Nat.le_of_ble_eq_true rfl) (Nat.le_of_ble_eq_true rfl) ?_
  obtain rfl : r_2 = 0 := hw
  refine lv_if_eq (tgt := 62) hx hb dX10_meanStop_23 (by decide) (fun c_3 => ?_) (fun c_3 => ?_)
  rotate_left
  · (first | exact absurd c_3 (by decide) | exact absurd (by decide) c_3)
  refine lv_iload_n hx hb dX10_meanStop_62 rfl (lv_at hl 1 rfl) ?_
  refine lv_if_ne (tgt := 70) hx hb dX10_meanStop_63 (by decide) (fun c_4 => ?_) (fun c_4 => ?_)
  · (first | exact absurd c_4 (by decide) | exact absurd (by decide) c_4)
  refine lv_dconst0 hx hb dX10_meanStop_66 ?_
  refine lv_goto (tgt := 75) hx hb dX10_meanStop_67 (by decide) ?_
  have hP9 := hP.sub (ws' := [(m0, .inr (12, [.int 0, .ref l1, .ref l2, .int 0, .int 0, .int 0, .long 0]))]) [0] rfl
  have hD9 := hD.sub (ws' := [(m0, .inr (12, [.int 0, .ref l1, .ref l2, .int 0, .int 0, .int 0, .long 0]))]) [0] (by decide) rfl
  have hK9 := hK.sub (tys' := []) [] rfl
  refine W.widen (k := 1) (n := 4) (Nat.le_of_ble_eq_true rfl) (Nat.le_of_ble_eq_true rfl) ?_
  exact W.dret (v := FP.dconst0) hx hb hr (fun t ht hW => ⟨⟨FP.dconst0, (), rfl, rfl, ⟨by rw [ht]; exact hP9, va_K.moved hW.alike hK9, hD9⟩⟩, hS.F ht⟩) hS.2.2 dX10_meanStop_75

def zs_c_X10_tag_no1 : List Cond := .code yX10_tag cX10_tag 5 (some .int) :: (([.fieldLink RX10 19 "HaltingaleModel" "thrown" "I", .code yX10_is cX10_is 3 (some .boolean), .methodLink RX10 27 yX10_is, .static yX10_is, .initialized RX10, .code yX10_refuse cX10_refuse 2 (some .int), .methodLink RX10 31 yX10_refuse, .instanceMethod yX10_refuse, .selects RX10 yX10_refuse yX10_refuse] : List Cond) ++ wsX100)
set_option maxHeartbeats 4000000 in
set_option maxRecDepth 100000 in
/-- tag, out of its range -/
theorem c_X10_tag_no1 (l : Launch) (hnt : l.stackTraces = false) (dC : Nat → ClassId) (dI : Nat → Nat → Nat) (a0 : Nat) (m0 : Nat) (l1 : Nat) (l2 : Nat) (p0 : Int32) (p1 : Int32) (p2 : Int32) (sz : Nat) (hp0 : zw p0 1 3 = 0) : Met l yX10_tag zs_c_X10_tag_no1 ({ frames := 1, cells := 0, slots := 0, locals := 22 }) (va_Pc [.ref m0, .int p0, .int p1, .int p2] (fun U => U.heap.size = sz ∧ va_P (dC, dI) vwCl [(m0, .inr (12, [.int 0, .ref l1, .ref l2, .int 0, .int 0, .int 0, .long 0]))] U.heap ∧ va_K (dC, dI) vwCl [] U ∧ va_D (fun _ => True) [(m0, .inr (12, [.int 0, .ref l1, .ref l2, .int 0, .int 0, .int 0, .long 0]))] ∧ zB a0 (va_A [(m0, .inr (12, [.int 0, .ref l1, .ref l2, .int 0, .int 0, .int 0, .long 0]))] sz) U U.heap)) (va_Qi (fun (r : Int32) (_ : Unit) => r = 0) (fun _ t => va_P (dC, dI) vwCl [(m0, .inr (12, [.int 1, .ref l1, .ref l2, .int 0, .int 0, .int 0, .long 0]))] t.heap ∧ va_K (dC, dI) vwCl [] t ∧ va_D (va_A [(m0, .inr (12, [.int 0, .ref l1, .ref l2, .int 0, .int 0, .int 0, .long 0]))] sz) [(m0, .inr (12, [.int 1, .ref l1, .ref l2, .int 0, .int 0, .int 0, .long 0]))]) (va_A [(m0, .inr (12, [.int 0, .ref l1, .ref l2, .int 0, .int 0, .int 0, .long 0]))] sz)) 0 0 (va_A [(m0, .inr (12, [.int 0, .ref l1, .ref l2, .int 0, .int 0, .int 0, .long 0]))] sz) := by
  refine Met.ofW (cc := cX10_tag) (maxL := 5) (ret := (some .int)) (by decide) rfl ?_
  intro p e s m args below meth c s₁ B hml hv
  obtain ⟨rfl, hsz, hP, hK, hD0, hZ⟩ := hv
  have hx := B.exec
  have hb := B.bytes
  have hr := B.returns
  have hts := atoms_spec (ws := zs_c_X10_tag_no1) B.pre
  have hown : s.vm.findClass RX10 = some m.cls := findClass_of_methodNamed B.named
  have hlocks := B.notSynchronized
  have hiX10 : ∀ w ∈ wsX100, w ∈ zs_c_X10_tag_no1 := by decide +kernel
  subst hsz
  have hD := hD0.self (sz := s.heap.size)
  generalize hAe : va_A [(m0, .inr (12, [.int 0, .ref l1, .ref l2, .int 0, .int 0, .int 0, .long 0]))] s.heap.size = A at hD hZ ⊢
  have hA : ∀ q : Nat, s.heap.size ≤ q → A q := fun q h => by rw [← hAe]; exact Or.inr h
  have hS : va_S A s.heap s.heap [] := va_S.rf
  have hl := lv_entry ([.ref m0, .int p0, .int p1, .int p2]) (n := 5) (Nat.le_of_ble_eq_true rfl)
  rw [lg_entry_eq]
  generalize (lg_sl ([.ref m0, .int p0, .int p1, .int p2]) ++ List.replicate (5 - (lg_sl ([.ref m0, .int p0, .int p1, .int p2])).length) Slot.unset).toArray = ls at hl ⊢
  have hl : lv_has ls 5 [(0, .ref m0), (1, .int p0), (2, .int p1), (3, .int p2)] := hl
  refine lv_aload_n hx hb dX10_tag_0 rfl (lv_at hl 0 rfl) ?_
  refine lv_iconst (v := 0) hx hb dX10_tag_1 (by decide) ?_
  refine va_put (D := (dC, dI)) (ci := 12) (v := .int 0) (ty := .int) (C := RX10) (T := TX10) (N := 7) hx hb hts hiX10 tyX10 tyX10_ok nmX10 hown hK hP hD hS 0 rfl rfl 0 (by decide) (hts (.fieldLink RX10 19 "HaltingaleModel" "thrown" "I") (by decide +kernel)) (fun _ h9 => h9) rfl (by decide +kernel) rfl rfl (Nat.le_of_ble_eq_true rfl) dX10_tag_2 (fun H locs hP hD hS => ?_)
  have hP : va_P (dC, dI) vwCl [(m0, .inr (12, [.int 0, .ref l1, .ref l2, .int 0, .int 0, .int 0, .long 0]))] H := hP
  have hD : va_D A [(m0, .inr (12, [.int 0, .ref l1, .ref l2, .int 0, .int 0, .int 0, .long 0]))] := hD
  refine lv_iload_n hx hb dX10_tag_5 rfl (lv_at hl 1 rfl) ?_
  refine lv_iconst (v := 1) hx hb dX10_tag_6 (by decide) ?_
  refine lv_iconst (v := 3) hx hb dX10_tag_7 (by decide) ?_
  have hPc := hP.sub (ws' := []) [] rfl
  have hDc := hD.sub (ws' := []) [] (by decide) rfl
  have hKc := hK.sub (tys' := []) [] rfl
  have hFc := va_free (wc := []) hD hS hA [] rfl
  have hZc := ((hZ.kept hS.2.1).narrow hFc)
  refine va_calli (va_runS (As := [.int p0, .int 1, .int 3]) (rest := []) ⟨hx, hb, hml, hown, hts⟩ (c_X10_is l hnt dC dI a0 p0 1 3 H.size ) (va_cwS 3 hts (goodIn_of _ (by decide +kernel)) rfl rfl rfl (by decide +kernel) ⟨Nat.le_of_ble_eq_true rfl, Nat.le_of_ble_eq_true rfl⟩) ⟨fun a U g mk q => by obtain ⟨q0, q1, qP, qK, qD, qZ⟩ := q; exact ⟨q0, q1, qP, va_K.moved (u := U) (U := U.calling g mk a) (Vm.Alike.refl U.vm) qK, qD, qZ.call⟩, fun U hU hW => ⟨rfl, by rw [hU], by rw [hU]; exact hPc, va_K.moved hW.alike hKc, hDc.weaken (fun _ _ _ _ => trivial), by rw [hU]; exact hZc.warm hW⟩⟩ rfl rfl hl.1 rfl (lv_room (Nat.le_of_ble_eq_true rfl)) dX10_tag_8 ⟨Nat.le_of_ble_eq_true rfl, Nat.le_of_ble_eq_true rfl⟩) hS (fun q _ h => hFc q h) hFc (fun r_1 u t H1 locs ht hvm hw hB hz1 hk1 hS => ?_)
  obtain ⟨hP1, hK1, hD1⟩ := hB
  rw [ht] at hP1
  have hK1 := va_K.moved hvm.symm hK1
  obtain ⟨hP, hD⟩ := va_join (wr := [(m0, .inr (12, [.int 0, .ref l1, .ref l2, .int 0, .int 0, .int 0, .long 0]))]) (w1 := []) hP hD [] [0] rfl rfl (by decide) (by decide) hk1 hFc hP1 hD1
  have hK := (hK.sub (tys' := []) [] rfl).app hK1
  generalize H1 = H at hP hS ⊢
  have hP : va_P (dC, dI) vwCl [(m0, .inr (12, [.int 0, .ref l1, .ref l2, .int 0, .int 0, .int 0, .long 0]))] H := hP
  have hD : va_D A [(m0, .inr (12, [.int 0, .ref l1, .ref l2, .int 0, .int 0, .int 0, .long 0]))] := hD
  have hK : va_K (dC, dI) vwCl [] s := hK
  refine W.widen (k := 0) (n := 0) (Nat.le_of_ble_eq_true rfl) (Nat.le_of_ble_eq_true rfl) ?_
  obtain rfl : r_1 = 0 := hw.trans (hp0)
  refine lv_if_eq (tgt := 34) hx hb dX10_tag_11 (by decide) (fun c_2 => ?_) (fun c_2 => ?_)
  rotate_left
  · (first | exact absurd c_2 (by decide) | exact absurd (by decide) c_2)
  refine lv_aload_n hx hb dX10_tag_34 rfl (lv_at hl 0 rfl) ?_
  refine lv_iconst (v := 1) hx hb dX10_tag_35 (by decide) ?_
  have hPc := hP.sub (ws' := [(m0, .inr (12, [.int 0, .ref l1, .ref l2, .int 0, .int 0, .int 0, .long 0]))]) [0] rfl
  have hDc := hD.sub (ws' := [(m0, .inr (12, [.int 0, .ref l1, .ref l2, .int 0, .int 0, .int 0, .long 0]))]) [0] (by decide) rfl
  have hKc := hK.sub (tys' := []) [] rfl
  have hFc := va_free (wc := [(m0, .inr (12, [.int 0, .ref l1, .ref l2, .int 0, .int 0, .int 0, .long 0]))]) hD hS hA [0] rfl
  have hZc := ((hZ.kept hS.2.1).narrow hFc)
  refine va_calli (va_runV (As := [.int 1]) (rest := []) ⟨hx, hb, hml, hown, hts⟩ (c_X10_refuse l hnt dC dI a0 m0 l1 l2 1 H.size ) (cwV 1 hts (goodIn_of _ (by decide +kernel)) rfl rfl rfl (by decide +kernel) ⟨Nat.le_of_ble_eq_true rfl, Nat.le_of_ble_eq_true rfl⟩) ⟨fun a U g mk q => by obtain ⟨q0, q1, qP, qK, qD, qZ⟩ := q; exact ⟨q0, q1, qP, va_K.moved (u := U) (U := U.calling g mk a) (Vm.Alike.refl U.vm) qK, qD, qZ.call⟩, va_recv hKc hPc (ci := 12) (q0 := 0) rfl rfl, fun U hU hW => ⟨rfl, by rw [hU], by rw [hU]; exact hPc, va_K.moved hW.alike hKc, hDc.weaken (fun _ _ _ _ => trivial), by rw [hU]; exact hZc.warm hW⟩⟩ rfl rfl hl.1 rfl (lv_room (Nat.le_of_ble_eq_true rfl)) dX10_tag_36 ⟨Nat.le_of_ble_eq_true rfl, Nat.le_of_ble_eq_true rfl⟩) hS (fun q _ h => hFc q h) hFc (fun r_3 u t H1 locs ht hvm hw hB hz1 hk1 hS => ?_)
  obtain ⟨hP1, hK1, hD1⟩ := hB
  rw [ht] at hP1
  have hK1 := va_K.moved hvm.symm hK1
  obtain ⟨hP, hD⟩ := va_join (wr := []) (w1 := [(m0, .inr (12, [.int 1, .ref l1, .ref l2, .int 0, .int 0, .int 0, .long 0]))]) hP hD [0] [] rfl rfl (by decide) (by decide) hk1 hFc hP1 hD1
  have hK := (hK.sub (tys' := []) [] rfl).app hK1
  generalize H1 = H at hP hS ⊢
  have hP : va_P (dC, dI) vwCl [(m0, .inr (12, [.int 1, .ref l1, .ref l2, .int 0, .int 0, .int 0, .long 0]))] H := hP
  have hD : va_D A [(m0, .inr (12, [.int 1, .ref l1, .ref l2, .int 0, .int 0, .int 0, .long 0]))] := hD
  have hK : va_K (dC, dI) vwCl [] s := hK
  refine W.widen (k := 0) (n := 0) (Nat.le_of_ble_eq_true rfl) (Nat.le_of_ble_eq_true rfl) ?_
  obtain rfl : r_3 = 0 := hw
  have hP9 := hP.sub (ws' := [(m0, .inr (12, [.int 1, .ref l1, .ref l2, .int 0, .int 0, .int 0, .long 0]))]) [0] rfl
  have hD9 := hD.sub (ws' := [(m0, .inr (12, [.int 1, .ref l1, .ref l2, .int 0, .int 0, .int 0, .long 0]))]) [0] (by decide) rfl
  have hK9 := hK.sub (tys' := []) [] rfl
  refine W.widen (k := 0) (n := 0) (Nat.le_of_ble_eq_true rfl) (Nat.le_of_ble_eq_true rfl) ?_
  exact W.iret (v := 0) hx hb hr (fun t ht hW => ⟨⟨0, (), rfl, rfl, ⟨by rw [ht]; exact hP9, va_K.moved hW.alike hK9, hD9⟩⟩, hS.F ht⟩) hS.2.2 dX10_tag_39

def zs_c_X10_tag_no2 : List Cond := .code yX10_tag cX10_tag 5 (some .int) :: (([.fieldLink RX10 19 "HaltingaleModel" "thrown" "I", .code yX10_is cX10_is 3 (some .boolean), .methodLink RX10 27 yX10_is, .static yX10_is, .initialized RX10, .code yX10_refuse cX10_refuse 2 (some .int), .methodLink RX10 31 yX10_refuse, .instanceMethod yX10_refuse, .selects RX10 yX10_refuse yX10_refuse] : List Cond) ++ wsX100)
set_option maxHeartbeats 4000000 in
set_option maxRecDepth 100000 in
/-- tag, out of its range -/
theorem c_X10_tag_no2 (l : Launch) (hnt : l.stackTraces = false) (dC : Nat → ClassId) (dI : Nat → Nat → Nat) (a0 : Nat) (m0 : Nat) (l1 : Nat) (l2 : Nat) (p0 : Int32) (p1 : Int32) (p2 : Int32) (sz : Nat) (hp0 : zw p0 1 3 = 1) (hp1 : zw p1 1 63 = 0) : Met l yX10_tag zs_c_X10_tag_no2 ({ frames := 1, cells := 0, slots := 0, locals := 22 }) (va_Pc [.ref m0, .int p0, .int p1, .int p2] (fun U => U.heap.size = sz ∧ va_P (dC, dI) vwCl [(m0, .inr (12, [.int 0, .ref l1, .ref l2, .int 0, .int 0, .int 0, .long 0]))] U.heap ∧ va_K (dC, dI) vwCl [] U ∧ va_D (fun _ => True) [(m0, .inr (12, [.int 0, .ref l1, .ref l2, .int 0, .int 0, .int 0, .long 0]))] ∧ zB a0 (va_A [(m0, .inr (12, [.int 0, .ref l1, .ref l2, .int 0, .int 0, .int 0, .long 0]))] sz) U U.heap)) (va_Qi (fun (r : Int32) (_ : Unit) => r = 0) (fun _ t => va_P (dC, dI) vwCl [(m0, .inr (12, [.int 1, .ref l1, .ref l2, .int 0, .int 0, .int 0, .long 0]))] t.heap ∧ va_K (dC, dI) vwCl [] t ∧ va_D (va_A [(m0, .inr (12, [.int 0, .ref l1, .ref l2, .int 0, .int 0, .int 0, .long 0]))] sz) [(m0, .inr (12, [.int 1, .ref l1, .ref l2, .int 0, .int 0, .int 0, .long 0]))]) (va_A [(m0, .inr (12, [.int 0, .ref l1, .ref l2, .int 0, .int 0, .int 0, .long 0]))] sz)) 0 0 (va_A [(m0, .inr (12, [.int 0, .ref l1, .ref l2, .int 0, .int 0, .int 0, .long 0]))] sz) := by
  refine Met.ofW (cc := cX10_tag) (maxL := 5) (ret := (some .int)) (by decide) rfl ?_
  intro p e s m args below meth c s₁ B hml hv
  obtain ⟨rfl, hsz, hP, hK, hD0, hZ⟩ := hv
  have hx := B.exec
  have hb := B.bytes
  have hr := B.returns
  have hts := atoms_spec (ws := zs_c_X10_tag_no2) B.pre
  have hown : s.vm.findClass RX10 = some m.cls := findClass_of_methodNamed B.named
  have hlocks := B.notSynchronized
  have hiX10 : ∀ w ∈ wsX100, w ∈ zs_c_X10_tag_no2 := by decide +kernel
  subst hsz
  have hD := hD0.self (sz := s.heap.size)
  generalize hAe : va_A [(m0, .inr (12, [.int 0, .ref l1, .ref l2, .int 0, .int 0, .int 0, .long 0]))] s.heap.size = A at hD hZ ⊢
  have hA : ∀ q : Nat, s.heap.size ≤ q → A q := fun q h => by rw [← hAe]; exact Or.inr h
  have hS : va_S A s.heap s.heap [] := va_S.rf
  have hl := lv_entry ([.ref m0, .int p0, .int p1, .int p2]) (n := 5) (Nat.le_of_ble_eq_true rfl)
  rw [lg_entry_eq]
  generalize (lg_sl ([.ref m0, .int p0, .int p1, .int p2]) ++ List.replicate (5 - (lg_sl ([.ref m0, .int p0, .int p1, .int p2])).length) Slot.unset).toArray = ls at hl ⊢
  have hl : lv_has ls 5 [(0, .ref m0), (1, .int p0), (2, .int p1), (3, .int p2)] := hl
  refine lv_aload_n hx hb dX10_tag_0 rfl (lv_at hl 0 rfl) ?_
  refine lv_iconst (v := 0) hx hb dX10_tag_1 (by decide) ?_
  refine va_put (D := (dC, dI)) (ci := 12) (v := .int 0) (ty := .int) (C := RX10) (T := TX10) (N := 7) hx hb hts hiX10 tyX10 tyX10_ok nmX10 hown hK hP hD hS 0 rfl rfl 0 (by decide) (hts (.fieldLink RX10 19 "HaltingaleModel" "thrown" "I") (by decide +kernel)) (fun _ h9 => h9) rfl (by decide +kernel) rfl rfl (Nat.le_of_ble_eq_true rfl) dX10_tag_2 (fun H locs hP hD hS => ?_)
  have hP : va_P (dC, dI) vwCl [(m0, .inr (12, [.int 0, .ref l1, .ref l2, .int 0, .int 0, .int 0, .long 0]))] H := hP
  have hD : va_D A [(m0, .inr (12, [.int 0, .ref l1, .ref l2, .int 0, .int 0, .int 0, .long 0]))] := hD
  refine lv_iload_n hx hb dX10_tag_5 rfl (lv_at hl 1 rfl) ?_
  refine lv_iconst (v := 1) hx hb dX10_tag_6 (by decide) ?_
  refine lv_iconst (v := 3) hx hb dX10_tag_7 (by decide) ?_
  have hPc := hP.sub (ws' := []) [] rfl
  have hDc := hD.sub (ws' := []) [] (by decide) rfl
  have hKc := hK.sub (tys' := []) [] rfl
  have hFc := va_free (wc := []) hD hS hA [] rfl
  have hZc := ((hZ.kept hS.2.1).narrow hFc)
  refine va_calli (va_runS (As := [.int p0, .int 1, .int 3]) (rest := []) ⟨hx, hb, hml, hown, hts⟩ (c_X10_is l hnt dC dI a0 p0 1 3 H.size ) (va_cwS 3 hts (goodIn_of _ (by decide +kernel)) rfl rfl rfl (by decide +kernel) ⟨Nat.le_of_ble_eq_true rfl, Nat.le_of_ble_eq_true rfl⟩) ⟨fun a U g mk q => by obtain ⟨q0, q1, qP, qK, qD, qZ⟩ := q; exact ⟨q0, q1, qP, va_K.moved (u := U) (U := U.calling g mk a) (Vm.Alike.refl U.vm) qK, qD, qZ.call⟩, fun U hU hW => ⟨rfl, by rw [hU], by rw [hU]; exact hPc, va_K.moved hW.alike hKc, hDc.weaken (fun _ _ _ _ => trivial), by rw [hU]; exact hZc.warm hW⟩⟩ rfl rfl hl.1 rfl (lv_room (Nat.le_of_ble_eq_true rfl)) dX10_tag_8 ⟨Nat.le_of_ble_eq_true rfl, Nat.le_of_ble_eq_true rfl⟩) hS (fun q _ h => hFc q h) hFc (fun r_1 u t H1 locs ht hvm hw hB hz1 hk1 hS => ?_)
  obtain ⟨hP1, hK1, hD1⟩ := hB
  rw [ht] at hP1
  have hK1 := va_K.moved hvm.symm hK1
  obtain ⟨hP, hD⟩ := va_join (wr := [(m0, .inr (12, [.int 0, .ref l1, .ref l2, .int 0, .int 0, .int 0, .long 0]))]) (w1 := []) hP hD [] [0] rfl rfl (by decide) (by decide) hk1 hFc hP1 hD1
  have hK := (hK.sub (tys' := []) [] rfl).app hK1
  generalize H1 = H at hP hS ⊢
  have hP : va_P (dC, dI) vwCl [(m0, .inr (12, [.int 0, .ref l1, .ref l2, .int 0, .int 0, .int 0, .long 0]))] H := hP
  have hD : va_D A [(m0, .inr (12, [.int 0, .ref l1, .ref l2, .int 0, .int 0, .int 0, .long 0]))] := hD
  have hK : va_K (dC, dI) vwCl [] s := hK
  refine W.widen (k := 0) (n := 0) (Nat.le_of_ble_eq_true rfl) (Nat.le_of_ble_eq_true rfl) ?_
  obtain rfl : r_1 = 1 := hw.trans (hp0)
  refine lv_if_eq (tgt := 34) hx hb dX10_tag_11 (by decide) (fun c_2 => ?_) (fun c_2 => ?_)
  · (first | exact absurd c_2 (by decide) | exact absurd (by decide) c_2)
  refine lv_iload_n hx hb dX10_tag_14 rfl (lv_at hl 2 rfl) ?_
  refine lv_iconst (v := 1) hx hb dX10_tag_15 (by decide) ?_
  refine lv_bipush (v := 63) hx hb dX10_tag_16 (by decide) ?_
  have hPc := hP.sub (ws' := []) [] rfl
  have hDc := hD.sub (ws' := []) [] (by decide) rfl
  have hKc := hK.sub (tys' := []) [] rfl
  have hFc := va_free (wc := []) hD hS hA [] rfl
  have hZc := ((hZ.kept hS.2.1).narrow hFc)
  refine va_calli (va_runS (As := [.int p1, .int 1, .int 63]) (rest := []) ⟨hx, hb, hml, hown, hts⟩ (c_X10_is l hnt dC dI a0 p1 1 63 H.size ) (va_cwS 3 hts (goodIn_of _ (by decide +kernel)) rfl rfl rfl (by decide +kernel) ⟨Nat.le_of_ble_eq_true rfl, Nat.le_of_ble_eq_true rfl⟩) ⟨fun a U g mk q => by obtain ⟨q0, q1, qP, qK, qD, qZ⟩ := q; exact ⟨q0, q1, qP, va_K.moved (u := U) (U := U.calling g mk a) (Vm.Alike.refl U.vm) qK, qD, qZ.call⟩, fun U hU hW => ⟨rfl, by rw [hU], by rw [hU]; exact hPc, va_K.moved hW.alike hKc, hDc.weaken (fun _ _ _ _ => trivial), by rw [hU]; exact hZc.warm hW⟩⟩ rfl rfl hl.1 rfl (lv_room (Nat.le_of_ble_eq_true rfl)) dX10_tag_18 ⟨Nat.le_of_ble_eq_true rfl, Nat.le_of_ble_eq_true rfl⟩) hS (fun q _ h => hFc q h) hFc (fun r_3 u t H1 locs ht hvm hw hB hz1 hk1 hS => ?_)
  obtain ⟨hP1, hK1, hD1⟩ := hB
  rw [ht] at hP1
  have hK1 := va_K.moved hvm.symm hK1
  obtain ⟨hP, hD⟩ := va_join (wr := [(m0, .inr (12, [.int 0, .ref l1, .ref l2, .int 0, .int 0, .int 0, .long 0]))]) (w1 := []) hP hD [] [0] rfl rfl (by decide) (by decide) hk1 hFc hP1 hD1
  have hK := (hK.sub (tys' := []) [] rfl).app hK1
  generalize H1 = H at hP hS ⊢
  have hP : va_P (dC, dI) vwCl [(m0, .inr (12, [.int 0, .ref l1, .ref l2, .int 0, .int 0, .int 0, .long 0]))] H := hP
  have hD : va_D A [(m0, .inr (12, [.int 0, .ref l1, .ref l2, .int 0, .int 0, .int 0, .long 0]))] := hD
  have hK : va_K (dC, dI) vwCl [] s := hK
  refine W.widen (k := 0) (n := 0) (Nat.le_of_ble_eq_true rfl) (Nat.le_of_ble_eq_true rfl) ?_
  obtain rfl : r_3 = 0 := hw.trans (hp1)
  refine lv_if_eq (tgt := 34) hx hb dX10_tag_21 (by decide) (fun c_4 => ?_) (fun c_4 => ?_)
  rotate_left
  · (first | exact absurd c_4 (by decide) | exact absurd (by decide) c_4)
  refine lv_aload_n hx hb dX10_tag_34 rfl (lv_at hl 0 rfl) ?_
  refine lv_iconst (v := 1) hx hb dX10_tag_35 (by decide) ?_
  have hPc := hP.sub (ws' := [(m0, .inr (12, [.int 0, .ref l1, .ref l2, .int 0, .int 0, .int 0, .long 0]))]) [0] rfl
  have hDc := hD.sub (ws' := [(m0, .inr (12, [.int 0, .ref l1, .ref l2, .int 0, .int 0, .int 0, .long 0]))]) [0] (by decide) rfl
  have hKc := hK.sub (tys' := []) [] rfl
  have hFc := va_free (wc := [(m0, .inr (12, [.int 0, .ref l1, .ref l2, .int 0, .int 0, .int 0, .long 0]))]) hD hS hA [0] rfl
  have hZc := ((hZ.kept hS.2.1).narrow hFc)
  refine va_calli (va_runV (As := [.int 1]) (rest := []) ⟨hx, hb, hml, hown, hts⟩ (c_X10_refuse l hnt dC dI a0 m0 l1 l2 1 H.size ) (cwV 1 hts (goodIn_of _ (by decide +kernel)) rfl rfl rfl (by decide +kernel) ⟨Nat.le_of_ble_eq_true rfl, Nat.le_of_ble_eq_true rfl⟩) ⟨fun a U g mk q => by obtain ⟨q0, q1, qP, qK, qD, qZ⟩ := q; exact ⟨q0, q1, qP, va_K.moved (u := U) (U := U.calling g mk a) (Vm.Alike.refl U.vm) qK, qD, qZ.call⟩, va_recv hKc hPc (ci := 12) (q0 := 0) rfl rfl, fun U hU hW => ⟨rfl, by rw [hU], by rw [hU]; exact hPc, va_K.moved hW.alike hKc, hDc.weaken (fun _ _ _ _ => trivial), by rw [hU]; exact hZc.warm hW⟩⟩ rfl rfl hl.1 rfl (lv_room (Nat.le_of_ble_eq_true rfl)) dX10_tag_36 ⟨Nat.le_of_ble_eq_true rfl, Nat.le_of_ble_eq_true rfl⟩) hS (fun q _ h => hFc q h) hFc (fun r_5 u t H1 locs ht hvm hw hB hz1 hk1 hS => ?_)
  obtain ⟨hP1, hK1, hD1⟩ := hB
  rw [ht] at hP1
  have hK1 := va_K.moved hvm.symm hK1
  obtain ⟨hP, hD⟩ := va_join (wr := []) (w1 := [(m0, .inr (12, [.int 1, .ref l1, .ref l2, .int 0, .int 0, .int 0, .long 0]))]) hP hD [0] [] rfl rfl (by decide) (by decide) hk1 hFc hP1 hD1
  have hK := (hK.sub (tys' := []) [] rfl).app hK1
  generalize H1 = H at hP hS ⊢
  have hP : va_P (dC, dI) vwCl [(m0, .inr (12, [.int 1, .ref l1, .ref l2, .int 0, .int 0, .int 0, .long 0]))] H := hP
  have hD : va_D A [(m0, .inr (12, [.int 1, .ref l1, .ref l2, .int 0, .int 0, .int 0, .long 0]))] := hD
  have hK : va_K (dC, dI) vwCl [] s := hK
  refine W.widen (k := 0) (n := 0) (Nat.le_of_ble_eq_true rfl) (Nat.le_of_ble_eq_true rfl) ?_
  obtain rfl : r_5 = 0 := hw
  have hP9 := hP.sub (ws' := [(m0, .inr (12, [.int 1, .ref l1, .ref l2, .int 0, .int 0, .int 0, .long 0]))]) [0] rfl
  have hD9 := hD.sub (ws' := [(m0, .inr (12, [.int 1, .ref l1, .ref l2, .int 0, .int 0, .int 0, .long 0]))]) [0] (by decide) rfl
  have hK9 := hK.sub (tys' := []) [] rfl
  refine W.widen (k := 0) (n := 0) (Nat.le_of_ble_eq_true rfl) (Nat.le_of_ble_eq_true rfl) ?_
  exact W.iret (v := 0) hx hb hr (fun t ht hW => ⟨⟨0, (), rfl, rfl, ⟨by rw [ht]; exact hP9, va_K.moved hW.alike hK9, hD9⟩⟩, hS.F ht⟩) hS.2.2 dX10_tag_39

def zs_c_X10_tag_no3 : List Cond := .code yX10_tag cX10_tag 5 (some .int) :: (([.fieldLink RX10 19 "HaltingaleModel" "thrown" "I", .code yX10_is cX10_is 3 (some .boolean), .methodLink RX10 27 yX10_is, .static yX10_is, .initialized RX10, .code yX10_refuse cX10_refuse 2 (some .int), .methodLink RX10 31 yX10_refuse, .instanceMethod yX10_refuse, .selects RX10 yX10_refuse yX10_refuse] : List Cond) ++ wsX100)
set_option maxHeartbeats 4000000 in
set_option maxRecDepth 100000 in
/-- tag, out of its range -/
theorem c_X10_tag_no3 (l : Launch) (hnt : l.stackTraces = false) (dC : Nat → ClassId) (dI : Nat → Nat → Nat) (a0 : Nat) (m0 : Nat) (l1 : Nat) (l2 : Nat) (p0 : Int32) (p1 : Int32) (p2 : Int32) (sz : Nat) (hp0 : zw p0 1 3 = 1) (hp1 : zw p1 1 63 = 1) (hp2 : zw p2 1 63 = 0) : Met l yX10_tag zs_c_X10_tag_no3 ({ frames := 1, cells := 0, slots := 0, locals := 22 }) (va_Pc [.ref m0, .int p0, .int p1, .int p2] (fun U => U.heap.size = sz ∧ va_P (dC, dI) vwCl [(m0, .inr (12, [.int 0, .ref l1, .ref l2, .int 0, .int 0, .int 0, .long 0]))] U.heap ∧ va_K (dC, dI) vwCl [] U ∧ va_D (fun _ => True) [(m0, .inr (12, [.int 0, .ref l1, .ref l2, .int 0, .int 0, .int 0, .long 0]))] ∧ zB a0 (va_A [(m0, .inr (12, [.int 0, .ref l1, .ref l2, .int 0, .int 0, .int 0, .long 0]))] sz) U U.heap)) (va_Qi (fun (r : Int32) (_ : Unit) => r = 0) (fun _ t => va_P (dC, dI) vwCl [(m0, .inr (12, [.int 1, .ref l1, .ref l2, .int 0, .int 0, .int 0, .long 0]))] t.heap ∧ va_K (dC, dI) vwCl [] t ∧ va_D (va_A [(m0, .inr (12, [.int 0, .ref l1, .ref l2, .int 0, .int 0, .int 0, .long 0]))] sz) [(m0, .inr (12, [.int 1, .ref l1, .ref l2, .int 0, .int 0, .int 0, .long 0]))]) (va_A [(m0, .inr (12, [.int 0, .ref l1, .ref l2, .int 0, .int 0, .int 0, .long 0]))] sz)) 0 0 (va_A [(m0, .inr (12, [.int 0, .ref l1, .ref l2, .int 0, .int 0, .int 0, .long 0]))] sz) := by
  refine Met.ofW (cc := cX10_tag) (maxL := 5) (ret := (some .int)) (by decide) rfl ?_
  intro p e s m args below meth c s₁ B hml hv
  obtain ⟨rfl, hsz, hP, hK, hD0, hZ⟩ := hv
  have hx := B.exec
  have hb := B.bytes
  have hr := B.returns
  have hts := atoms_spec (ws := zs_c_X10_tag_no3) B.pre
  have hown : s.vm.findClass RX10 = some m.cls := findClass_of_methodNamed B.named
  have hlocks := B.notSynchronized
  have hiX10 : ∀ w ∈ wsX100, w ∈ zs_c_X10_tag_no3 := by decide +kernel
  subst hsz
  have hD := hD0.self (sz := s.heap.size)
  generalize hAe : va_A [(m0, .inr (12, [.int 0, .ref l1, .ref l2, .int 0, .int 0, .int 0, .long 0]))] s.heap.size = A at hD hZ ⊢
  have hA : ∀ q : Nat, s.heap.size ≤ q → A q := fun q h => by rw [← hAe]; exact Or.inr h
  have hS : va_S A s.heap s.heap [] := va_S.rf
  have hl := lv_entry ([.ref m0, .int p0, .int p1, .int p2]) (n := 5) (Nat.le_of_ble_eq_true rfl)
  rw [lg_entry_eq]
  generalize (lg_sl ([.ref m0, .int p0, .int p1, .int p2]) ++ List.replicate (5 - (lg_sl ([.ref m0, .int p0, .int p1, .int p2])).length) Slot.unset).toArray = ls at hl ⊢
  have hl : lv_has ls 5 [(0, .ref m0), (1, .int p0), (2, .int p1), (3, .int p2)] := hl
  refine lv_aload_n hx hb dX10_tag_0 rfl (lv_at hl 0 rfl) ?_
  refine lv_iconst (v := 0) hx hb dX10_tag_1 (by decide) ?_
  refine va_put (D := (dC, dI)) (ci := 12) (v := .int 0) (ty := .int) (C := RX10) (T := TX10) (N := 7) hx hb hts hiX10 tyX10 tyX10_ok nmX10 hown hK hP hD hS 0 rfl rfl 0 (by decide) (hts (.fieldLink RX10 19 "HaltingaleModel" "thrown" "I") (by decide +kernel)) (fun _ h9 => h9) rfl (by decide +kernel) rfl rfl (Nat.le_of_ble_eq_true rfl) dX10_tag_2 (fun H locs hP hD hS => ?_)
  have hP : va_P (dC, dI) vwCl [(m0, .inr (12, [.int 0, .ref l1, .ref l2, .int 0, .int 0, .int 0, .long 0]))] H := hP
  have hD : va_D A [(m0, .inr (12, [.int 0, .ref l1, .ref l2, .int 0, .int 0, .int 0, .long 0]))] := hD
  refine lv_iload_n hx hb dX10_tag_5 rfl (lv_at hl 1 rfl) ?_
  refine lv_iconst (v := 1) hx hb dX10_tag_6 (by decide) ?_
  refine lv_iconst (v := 3) hx hb dX10_tag_7 (by decide) ?_
  have hPc := hP.sub (ws' := []) [] rfl
  have hDc := hD.sub (ws' := []) [] (by decide) rfl
  have hKc := hK.sub (tys' := []) [] rfl
  have hFc := va_free (wc := []) hD hS hA [] rfl
  have hZc := ((hZ.kept hS.2.1).narrow hFc)
  refine va_calli (va_runS (As := [.int p0, .int 1, .int 3]) (rest := []) ⟨hx, hb, hml, hown, hts⟩ (c_X10_is l hnt dC dI a0 p0 1 3 H.size ) (va_cwS 3 hts (goodIn_of _ (by decide +kernel)) rfl rfl rfl (by decide +kernel) ⟨Nat.le_of_ble_eq_true rfl, Nat.le_of_ble_eq_true rfl⟩) ⟨fun a U g mk q => by obtain ⟨q0, q1, qP, qK, qD, qZ⟩ := q; exact ⟨q0, q1, qP, va_K.moved (u := U) (U := U.calling g mk a) (Vm.Alike.refl U.vm) qK, qD, qZ.call⟩, fun U hU hW => ⟨rfl, by rw [hU], by rw [hU]; exact hPc, va_K.moved hW.alike hKc, hDc.weaken (fun _ _ _ _ => trivial), by rw [hU]; exact hZc.warm hW⟩⟩ rfl rfl hl.1 rfl (lv_room (Nat.le_of_ble_eq_true rfl)) dX10_tag_8 ⟨Nat.le_of_ble_eq_true rfl, Nat.le_of_ble_eq_true rfl⟩) hS (fun q _ h => hFc q h) hFc (fun r_1 u t H1 locs ht hvm hw hB hz1 hk1 hS => ?_)
  obtain ⟨hP1, hK1, hD1⟩ := hB
  rw [ht] at hP1
  have hK1 := va_K.moved hvm.symm hK1
  obtain ⟨hP, hD⟩ := va_join (wr := [(m0, .inr (12, [.int 0, .ref l1, .ref l2, .int 0, .int 0, .int 0, .long 0]))]) (w1 := []) hP hD [] [0] rfl rfl (by decide) (by decide) hk1 hFc hP1 hD1
  have hK := (hK.sub (tys' := []) [] rfl).app hK1
  generalize H1 = H at hP hS ⊢
  have hP : va_P (dC, dI) vwCl [(m0, .inr (12, [.int 0, .ref l1, .ref l2, .int 0, .int 0, .int 0, .long 0]))] H := hP
  have hD : va_D A [(m0, .inr (12, [.int 0, .ref l1, .ref l2, .int 0, .int 0, .int 0, .long 0]))] := hD
  have hK : va_K (dC, dI) vwCl [] s := hK
  refine W.widen (k := 0) (n := 0) (Nat.le_of_ble_eq_true rfl) (Nat.le_of_ble_eq_true rfl) ?_
  obtain rfl : r_1 = 1 := hw.trans (hp0)
  refine lv_if_eq (tgt := 34) hx hb dX10_tag_11 (by decide) (fun c_2 => ?_) (fun c_2 => ?_)
  · (first | exact absurd c_2 (by decide) | exact absurd (by decide) c_2)
  refine lv_iload_n hx hb dX10_tag_14 rfl (lv_at hl 2 rfl) ?_
  refine lv_iconst (v := 1) hx hb dX10_tag_15 (by decide) ?_
  refine lv_bipush (v := 63) hx hb dX10_tag_16 (by decide) ?_
  have hPc := hP.sub (ws' := []) [] rfl
  have hDc := hD.sub (ws' := []) [] (by decide) rfl
  have hKc := hK.sub (tys' := []) [] rfl
  have hFc := va_free (wc := []) hD hS hA [] rfl
  have hZc := ((hZ.kept hS.2.1).narrow hFc)
  refine va_calli (va_runS (As := [.int p1, .int 1, .int 63]) (rest := []) ⟨hx, hb, hml, hown, hts⟩ (c_X10_is l hnt dC dI a0 p1 1 63 H.size ) (va_cwS 3 hts (goodIn_of _ (by decide +kernel)) rfl rfl rfl (by decide +kernel) ⟨Nat.le_of_ble_eq_true rfl, Nat.le_of_ble_eq_true rfl⟩) ⟨fun a U g mk q => by obtain ⟨q0, q1, qP, qK, qD, qZ⟩ := q; exact ⟨q0, q1, qP, va_K.moved (u := U) (U := U.calling g mk a) (Vm.Alike.refl U.vm) qK, qD, qZ.call⟩, fun U hU hW => ⟨rfl, by rw [hU], by rw [hU]; exact hPc, va_K.moved hW.alike hKc, hDc.weaken (fun _ _ _ _ => trivial), by rw [hU]; exact hZc.warm hW⟩⟩ rfl rfl hl.1 rfl (lv_room (Nat.le_of_ble_eq_true rfl)) dX10_tag_18 ⟨Nat.le_of_ble_eq_true rfl, Nat.le_of_ble_eq_true rfl⟩) hS (fun q _ h => hFc q h) hFc (fun r_3 u t H1 locs ht hvm hw hB hz1 hk1 hS => ?_)
  obtain ⟨hP1, hK1, hD1⟩ := hB
  rw [ht] at hP1
  have hK1 := va_K.moved hvm.symm hK1
  obtain ⟨hP, hD⟩ := va_join (wr := [(m0, .inr (12, [.int 0, .ref l1, .ref l2, .int 0, .int 0, .int 0, .long 0]))]) (w1 := []) hP hD [] [0] rfl rfl (by decide) (by decide) hk1 hFc hP1 hD1
  have hK := (hK.sub (tys' := []) [] rfl).app hK1
  generalize H1 = H at hP hS ⊢
  have hP : va_P (dC, dI) vwCl [(m0, .inr (12, [.int 0, .ref l1, .ref l2, .int 0, .int 0, .int 0, .long 0]))] H := hP
  have hD : va_D A [(m0, .inr (12, [.int 0, .ref l1, .ref l2, .int 0, .int 0, .int 0, .long 0]))] := hD
  have hK : va_K (dC, dI) vwCl [] s := hK
  refine W.widen (k := 0) (n := 0) (Nat.le_of_ble_eq_true rfl) (Nat.le_of_ble_eq_true rfl) ?_
  obtain rfl : r_3 = 1 := hw.trans (hp1)
  refine lv_if_eq (tgt := 34) hx hb dX10_tag_21 (by decide) (fun c_4 => ?_) (fun c_4 => ?_)
  · (first | exact absurd c_4 (by decide) | exact absurd (by decide) c_4)
  refine lv_iload_n hx hb dX10_tag_24 rfl (lv_at hl 3 rfl) ?_
  refine lv_iconst (v := 1) hx hb dX10_tag_25 (by decide) ?_
  refine lv_bipush (v := 63) hx hb dX10_tag_26 (by decide) ?_
  have hPc := hP.sub (ws' := []) [] rfl
  have hDc := hD.sub (ws' := []) [] (by decide) rfl
  have hKc := hK.sub (tys' := []) [] rfl
  have hFc := va_free (wc := []) hD hS hA [] rfl
  have hZc := ((hZ.kept hS.2.1).narrow hFc)
  refine va_calli (va_runS (As := [.int p2, .int 1, .int 63]) (rest := []) ⟨hx, hb, hml, hown, hts⟩ (c_X10_is l hnt dC dI a0 p2 1 63 H.size ) (va_cwS 3 hts (goodIn_of _ (by decide +kernel)) rfl rfl rfl (by decide +kernel) ⟨Nat.le_of_ble_eq_true rfl, Nat.le_of_ble_eq_true rfl⟩) ⟨fun a U g mk q => by obtain ⟨q0, q1, qP, qK, qD, qZ⟩ := q; exact ⟨q0, q1, qP, va_K.moved (u := U) (U := U.calling g mk a) (Vm.Alike.refl U.vm) qK, qD, qZ.call⟩, fun U hU hW => ⟨rfl, by rw [hU], by rw [hU]; exact hPc, va_K.moved hW.alike hKc, hDc.weaken (fun _ _ _ _ => trivial), by rw [hU]; exact hZc.warm hW⟩⟩ rfl rfl hl.1 rfl (lv_room (Nat.le_of_ble_eq_true rfl)) dX10_tag_28 ⟨Nat.le_of_ble_eq_true rfl, Nat.le_of_ble_eq_true rfl⟩) hS (fun q _ h => hFc q h) hFc (fun r_5 u t H1 locs ht hvm hw hB hz1 hk1 hS => ?_)
  obtain ⟨hP1, hK1, hD1⟩ := hB
  rw [ht] at hP1
  have hK1 := va_K.moved hvm.symm hK1
  obtain ⟨hP, hD⟩ := va_join (wr := [(m0, .inr (12, [.int 0, .ref l1, .ref l2, .int 0, .int 0, .int 0, .long 0]))]) (w1 := []) hP hD [] [0] rfl rfl (by decide) (by decide) hk1 hFc hP1 hD1
  have hK := (hK.sub (tys' := []) [] rfl).app hK1
  generalize H1 = H at hP hS ⊢
  have hP : va_P (dC, dI) vwCl [(m0, .inr (12, [.int 0, .ref l1, .ref l2, .int 0, .int 0, .int 0, .long 0]))] H := hP
  have hD : va_D A [(m0, .inr (12, [.int 0, .ref l1, .ref l2, .int 0, .int 0, .int 0, .long 0]))] := hD
  have hK : va_K (dC, dI) vwCl [] s := hK
  refine W.widen (k := 0) (n := 0) (Nat.le_of_ble_eq_true rfl) (Nat.le_of_ble_eq_true rfl) ?_
  obtain rfl : r_5 = 0 := hw.trans (hp2)
  refine lv_if_ne (tgt := 40) hx hb dX10_tag_31 (by decide) (fun c_6 => ?_) (fun c_6 => ?_)
  · (first | exact absurd c_6 (by decide) | exact absurd (by decide) c_6)
  refine lv_aload_n hx hb dX10_tag_34 rfl (lv_at hl 0 rfl) ?_
  refine lv_iconst (v := 1) hx hb dX10_tag_35 (by decide) ?_
  have hPc := hP.sub (ws' := [(m0, .inr (12, [.int 0, .ref l1, .ref l2, .int 0, .int 0, .int 0, .long 0]))]) [0] rfl
  have hDc := hD.sub (ws' := [(m0, .inr (12, [.int 0, .ref l1, .ref l2, .int 0, .int 0, .int 0, .long 0]))]) [0] (by decide) rfl
  have hKc := hK.sub (tys' := []) [] rfl
  have hFc := va_free (wc := [(m0, .inr (12, [.int 0, .ref l1, .ref l2, .int 0, .int 0, .int 0, .long 0]))]) hD hS hA [0] rfl
  have hZc := ((hZ.kept hS.2.1).narrow hFc)
  refine va_calli (va_runV (As := [.int 1]) (rest := []) ⟨hx, hb, hml, hown, hts⟩ (c_X10_refuse l hnt dC dI a0 m0 l1 l2 1 H.size ) (cwV 1 hts (goodIn_of _ (by decide +kernel)) rfl rfl rfl (by decide +kernel) ⟨Nat.le_of_ble_eq_true rfl, Nat.le_of_ble_eq_true rfl⟩) ⟨fun a U g mk q => by obtain ⟨q0, q1, qP, qK, qD, qZ⟩ := q; exact ⟨q0, q1, qP, va_K.moved (u := U) (U := U.calling g mk a) (Vm.Alike.refl U.vm) qK, qD, qZ.call⟩, va_recv hKc hPc (ci := 12) (q0 := 0) rfl rfl, fun U hU hW => ⟨rfl, by rw [hU], by rw [hU]; exact hPc, va_K.moved hW.alike hKc, hDc.weaken (fun _ _ _ _ => trivial), by rw [hU]; exact hZc.warm hW⟩⟩ rfl rfl hl.1 rfl (lv_room (Nat.le_of_ble_eq_true rfl)) dX10_tag_36 ⟨Nat.le_of_ble_eq_true rfl, Nat.le_of_ble_eq_true rfl⟩) hS (fun q _ h => hFc q h) hFc (fun r_7 u t H1 locs ht hvm hw hB hz1 hk1 hS => ?_)
  obtain ⟨hP1, hK1, hD1⟩ := hB
  rw [ht] at hP1
  have hK1 := va_K.moved hvm.symm hK1
  obtain ⟨hP, hD⟩ := va_join (wr := []) (w1 := [(m0, .inr (12, [.int 1, .ref l1, .ref l2, .int 0, .int 0, .int 0, .long 0]))]) hP hD [0] [] rfl rfl (by decide) (by decide) hk1 hFc hP1 hD1
  have hK := (hK.sub (tys' := []) [] rfl).app hK1
  generalize H1 = H at hP hS ⊢
  have hP : va_P (dC, dI) vwCl [(m0, .inr (12, [.int 1, .ref l1, .ref l2, .int 0, .int 0, .int 0, .long 0]))] H := hP
  have hD : va_D A [(m0, .inr (12, [.int 1, .ref l1, .ref l2, .int 0, .int 0, .int 0, .long 0]))] := hD
  have hK : va_K (dC, dI) vwCl [] s := hK
  refine W.widen (k := 0) (n := 0) (Nat.le_of_ble_eq_true rfl) (Nat.le_of_ble_eq_true rfl) ?_
  obtain rfl : r_7 = 0 := hw
  have hP9 := hP.sub (ws' := [(m0, .inr (12, [.int 1, .ref l1, .ref l2, .int 0, .int 0, .int 0, .long 0]))]) [0] rfl
  have hD9 := hD.sub (ws' := [(m0, .inr (12, [.int 1, .ref l1, .ref l2, .int 0, .int 0, .int 0, .long 0]))]) [0] (by decide) rfl
  have hK9 := hK.sub (tys' := []) [] rfl
  refine W.widen (k := 0) (n := 0) (Nat.le_of_ble_eq_true rfl) (Nat.le_of_ble_eq_true rfl) ?_
  exact W.iret (v := 0) hx hb hr (fun t ht hW => ⟨⟨0, (), rfl, rfl, ⟨by rw [ht]; exact hP9, va_K.moved hW.alike hK9, hD9⟩⟩, hS.F ht⟩) hS.2.2 dX10_tag_39
