def zs_c_L_tell : List Cond := .codeWith yL_tell cL_tell 9 (some .int) [(0, 18, 21, 21), (0, 18, 25, 13), (0, 18, 29, 15)] :: (([.code yX7_tell cX7_tell 9 (some .int), .code yX7_find cX7_find 3 (some (.object "Haltingale$Machine")), .classLink RX7 301 "java/lang/IndexOutOfBoundsException", .initialized "java/lang/IndexOutOfBoundsException", .fieldLink RX7 148 "Haltingale" "machineCount" "I", .methodLink RX7 67 yX7_find, .instanceMethod yX7_find, .initialized RX7, .selects RX7 yX7_find yX7_find, .methodLink RL 17 yX7_tell, .instanceMethod yX7_tell, .selects RX7 yX7_tell yX7_tell, .classLink RL 21 "java/lang/IndexOutOfBoundsException"] : List Cond) ++ (vx_atS RX7 305 "java/lang/IndexOutOfBoundsException" ["java/lang/RuntimeException", "java/lang/Exception"]).filter goodWord ++ wsX70)
set_option maxHeartbeats 4000000 in
set_option maxRecDepth 100000 in
/-- the law's tell, refused -/
theorem c_L_tell (l : Launch) (hnt : l.stackTraces = false) (dC : Nat → ClassId) (dI : Nat → Nat → Nat) (a0 : Nat) (h0 : Nat) (qm : Nat) (qt : Nat) (qw : Nat) (qc : Nat) (qb : Nat) (qg : Nat) (qo : Nat) (cL : ClassId) (p0 : Int32) (p1 : Int32) (p2 : Int32) (p3 : Int32) (p4 : Int32) (p5 : Int32) (sz : Nat)  : Met l yL_tell zs_c_L_tell ({ frames := 8, cells := 1, slots := 6, locals := 132 }) (va_Pc [.ref h0, .int p0, .int p1, .int p2, .int p3, .int p4, .int p5, .ref qo] (fun U => U.heap.size = sz ∧ va_P (dC, dI) vwCl [(h0, .inr (9, [.ref qm, .ref qt, .ref qw, .ref qc, .ref qb, .ref qg, .int 0, .int 0, .int 0, .int 0, .int 0])), (qo, .inl (cL, 1, .inr (.inl (fun _ => 0))))] U.heap ∧ va_K (dC, dI) vwCl [(cL, .long)] U ∧ va_D (fun _ => True) [(h0, .inr (9, [.ref qm, .ref qt, .ref qw, .ref qc, .ref qb, .ref qg, .int 0, .int 0, .int 0, .int 0, .int 0])), (qo, .inl (cL, 1, .inr (.inl (fun _ => 0))))] ∧ zB a0 (va_A [(h0, .inr (9, [.ref qm, .ref qt, .ref qw, .ref qc, .ref qb, .ref qg, .int 0, .int 0, .int 0, .int 0, .int 0])), (qo, .inl (cL, 1, .inr (.inl (fun _ => 0))))] sz) U U.heap)) (va_Qi (fun (r : Int32) (_ : Unit) => r = 1) (fun _ t => va_P (dC, dI) vwCl [] t.heap ∧ va_K (dC, dI) vwCl [] t ∧ va_D (va_A [(h0, .inr (9, [.ref qm, .ref qt, .ref qw, .ref qc, .ref qb, .ref qg, .int 0, .int 0, .int 0, .int 0, .int 0])), (qo, .inl (cL, 1, .inr (.inl (fun _ => 0))))] sz) []) (va_A [(h0, .inr (9, [.ref qm, .ref qt, .ref qw, .ref qc, .ref qb, .ref qg, .int 0, .int 0, .int 0, .int 0, .int 0])), (qo, .inl (cL, 1, .inr (.inl (fun _ => 0))))] sz)) 1 6 (va_A [(h0, .inr (9, [.ref qm, .ref qt, .ref qw, .ref qc, .ref qb, .ref qg, .int 0, .int 0, .int 0, .int 0, .int 0])), (qo, .inl (cL, 1, .inr (.inl (fun _ => 0))))] sz) := by
  refine va_MetW (cc := cL_tell) (maxL := 9) (ret := (some .int)) (hh := [(0, 18, 21, 21), (0, 18, 25, 13), (0, 18, 29, 15)]) (by decide) rfl ?_
  intro p e s m args below meth c s₁ B hml hv
  obtain ⟨rfl, hsz, hP, hK, hD0, hZ⟩ := hv
  have hx := B.exec
  have hb := B.bytes
  have hr := B.returns
  have hts := atoms_spec (ws := zs_c_L_tell) B.pre
  have hown : s.vm.findClass RL = some m.cls := findClass_of_methodNamed B.named
  have hlocks := B.notSynchronized
  subst hsz
  have hD := hD0.self (sz := s.heap.size)
  generalize hAe : va_A [(h0, .inr (9, [.ref qm, .ref qt, .ref qw, .ref qc, .ref qb, .ref qg, .int 0, .int 0, .int 0, .int 0, .int 0])), (qo, .inl (cL, 1, .inr (.inl (fun _ => 0))))] s.heap.size = A at hD hZ ⊢
  have hA : ∀ q : Nat, s.heap.size ≤ q → A q := fun q h => by rw [← hAe]; exact Or.inr h
  have hS : va_S A s.heap s.heap [] := va_S.rf
  have hl := lv_entry ([.ref h0, .int p0, .int p1, .int p2, .int p3, .int p4, .int p5, .ref qo]) (n := 9) (Nat.le_of_ble_eq_true rfl)
  rw [lg_entry_eq]
  generalize (lg_sl ([.ref h0, .int p0, .int p1, .int p2, .int p3, .int p4, .int p5, .ref qo]) ++ List.replicate (9 - (lg_sl ([.ref h0, .int p0, .int p1, .int p2, .int p3, .int p4, .int p5, .ref qo])).length) Slot.unset).toArray = ls at hl ⊢
  have hl : lv_has ls 9 [(0, .ref h0), (1, .int p0), (2, .int p1), (3, .int p2), (4, .int p3), (5, .int p4), (6, .int p5), (7, .ref qo)] := hl
  refine lv_aload hx hb dL_tell_0 (lv_at hl 7 rfl) ?_
  refine lv_iconst (v := 0) hx hb dL_tell_2 (by decide) ?_
  refine lv_aload_n hx hb dL_tell_3 rfl (lv_at hl 0 rfl) ?_
  refine lv_iload_n hx hb dL_tell_4 rfl (lv_at hl 1 rfl) ?_
  refine lv_iload_n hx hb dL_tell_5 rfl (lv_at hl 2 rfl) ?_
  refine lv_iload_n hx hb dL_tell_6 rfl (lv_at hl 3 rfl) ?_
  refine lv_iload hx hb dL_tell_7 (lv_at hl 4 rfl) ?_
  refine lv_iload hx hb dL_tell_9 (lv_at hl 5 rfl) ?_
  refine lv_iload hx hb dL_tell_11 (lv_at hl 6 rfl) ?_
  have hPc := hP.sub (ws' := [(h0, .inr (9, [.ref qm, .ref qt, .ref qw, .ref qc, .ref qb, .ref qg, .int 0, .int 0, .int 0, .int 0, .int 0]))]) [0] rfl
  have hDc := hD.sub (ws' := [(h0, .inr (9, [.ref qm, .ref qt, .ref qw, .ref qc, .ref qb, .ref qg, .int 0, .int 0, .int 0, .int 0, .int 0]))]) [0] (by decide) rfl
  have hKc := hK.sub (tys' := []) [] rfl
  have hFc := va_free (wc := [(h0, .inr (9, [.ref qm, .ref qt, .ref qw, .ref qc, .ref qb, .ref qg, .int 0, .int 0, .int 0, .int 0, .int 0]))]) hD hS hA [0] rfl
  have hZc := ((hZ.kept hS.2.1).narrow hFc)
  refine vx_calli (vx_runV (As := [.int p0, .int p1, .int p2, .int p3, .int p4, .int p5]) (rest := [.int 0, .ref qo]) ⟨hx, hb, hml, hown, hts⟩ (c_X7_tell l hnt dC dI a0 h0 qm qt qw qc qb qg p0 p1 p2 p3 p4 p5 s.heap.size ) (cwV 6 hts (goodIn_of _ (by decide +kernel)) rfl rfl rfl (by decide +kernel) ⟨Nat.le_of_ble_eq_true rfl, Nat.le_of_ble_eq_true rfl⟩) ⟨fun a U g mk q => by obtain ⟨q0, q1, qP, qK, qD, qZ⟩ := q; exact ⟨q0, q1, qP, va_K.moved (u := U) (U := U.calling g mk a) (Vm.Alike.refl U.vm) qK, qD, qZ.call⟩, va_recv hKc hPc (ci := 9) (q0 := 0) rfl rfl, fun U hU hW => ⟨rfl, by rw [hU], by rw [hU]; exact hPc, va_K.moved hW.alike hKc, hDc.weaken (fun _ _ _ _ => trivial), by rw [hU]; exact hZc.warm hW⟩⟩ rfl rfl hl.1 rfl (lv_room (Nat.le_of_ble_eq_true rfl)) dL_tell_13 ⟨Nat.le_of_ble_eq_true rfl, Nat.le_of_ble_eq_true rfl⟩) hS (fun q _ h => hFc q h) hFc (fun q _ h => hFc q h) (fun E ce q9 u t H1 locs ht hvm hw hB hz1 hk1 hS hce hcv hcl => ?_) (fun r_1 u t H1 locs ht hvm hw hB hz1 hk1 hS => ?_)
  · obtain rfl := hB
    obtain ⟨hP, hD⟩ := va_join (D := (dC, dI)) (cl := vwCl) (wr := [(qo, .inl (cL, 1, .inr (.inl (fun _ => 0))))]) (w1 := []) hP hD [0] [1] rfl rfl (by decide) (by decide) hk1 hFc (fun k q h => by simp at h) ⟨fun i j p q h => by simp at h, fun k q h => by simp at h⟩
    refine vx_catch hown [] ⟨0, 18, 21, 21⟩ (tableOf [(0, 18, 21, 21), (0, 18, 25, 13), (0, 18, 29, 15)]).tail ((vx_table (x := yL_tell) B (hts (.codeWith yL_tell cL_tell 9 (some .int) [(0, 18, 21, 21), (0, 18, 25, 13), (0, 18, 29, 15)]) (by decide +kernel))).trans rfl) (fun z h => by simp at h) (by decide) (by decide) (hts (.classLink RL 21 "java/lang/IndexOutOfBoundsException") (by decide +kernel)) (zz_cast (hts (.instantiable "java/lang/IndexOutOfBoundsException" 6) (by decide +kernel))) hce hcv hcl ?_
    generalize H1 = H at hP hS ⊢
    have hP : va_P (dC, dI) vwCl [(qo, .inl (cL, 1, .inr (.inl (fun _ => 0))))] H := hP
    have hD : va_D A [(qo, .inl (cL, 1, .inr (.inl (fun _ => 0))))] := hD
    refine W.widen (k := 1) (n := 6) (Nat.le_of_ble_eq_true rfl) (Nat.le_of_ble_eq_true rfl) ?_
    refine lv_astore (lv' := [(8, .ref q9), (0, .ref h0), (1, .int p0), (2, .int p1), (3, .int p2), (4, .int p3), (5, .int p4), (6, .int p5), (7, .ref qo)]) hx hb dL_tell_21 hl (by decide) rfl (fun ls hl => ?_)
    refine lv_iconst (v := 1) hx hb dL_tell_23 (by decide) ?_
    have hP9 := hP.sub (ws' := []) [] rfl
    have hD9 := hD.sub (ws' := []) [] (by decide) rfl
    have hK9 := hK.sub (tys' := []) [] rfl
    refine W.widen (k := 1) (n := 6) (Nat.le_of_ble_eq_true rfl) (Nat.le_of_ble_eq_true rfl) ?_
    exact W.iret (v := 1) hx hb hr (fun t ht hW => ⟨⟨1, (), rfl, rfl, ⟨by rw [ht]; exact hP9, va_K.moved hW.alike hK9, hD9⟩⟩, hS.F ht⟩) hS.2.2 dL_tell_24
  exact hB.elim

def zs_c_L_amend : List Cond := .codeWith yL_amend cL_amend 9 (some .int) [(0, 25, 28, 21), (0, 25, 32, 13), (0, 25, 36, 15)] :: (([.code yX7_amend cX7_amend 9 (some .boolean), .code yX7_find cX7_find 3 (some (.object "Haltingale$Machine")), .classLink RX7 301 "java/lang/IndexOutOfBoundsException", .initialized "java/lang/IndexOutOfBoundsException", .fieldLink RX7 148 "Haltingale" "machineCount" "I", .methodLink RX7 67 yX7_find, .instanceMethod yX7_find, .initialized RX7, .selects RX7 yX7_find yX7_find, .methodLink RL 23 yX7_amend, .instanceMethod yX7_amend, .selects RX7 yX7_amend yX7_amend, .classLink RL 21 "java/lang/IndexOutOfBoundsException"] : List Cond) ++ (vx_atS RX7 305 "java/lang/IndexOutOfBoundsException" ["java/lang/RuntimeException", "java/lang/Exception"]).filter goodWord ++ wsX70)
set_option maxHeartbeats 4000000 in
set_option maxRecDepth 100000 in
/-- the law's amend, refused -/
theorem c_L_amend (l : Launch) (hnt : l.stackTraces = false) (dC : Nat → ClassId) (dI : Nat → Nat → Nat) (a0 : Nat) (h0 : Nat) (qm : Nat) (qt : Nat) (qw : Nat) (qc : Nat) (qb : Nat) (qg : Nat) (qo : Nat) (cL : ClassId) (p0 : Int32) (p1 : Int32) (p2 : Int32) (p3 : Int32) (p4 : Int32) (p5 : Int32) (sz : Nat)  : Met l yL_amend zs_c_L_amend ({ frames := 8, cells := 1, slots := 6, locals := 132 }) (va_Pc [.ref h0, .int p0, .int p1, .int p2, .int p3, .int p4, .int p5, .ref qo] (fun U => U.heap.size = sz ∧ va_P (dC, dI) vwCl [(h0, .inr (9, [.ref qm, .ref qt, .ref qw, .ref qc, .ref qb, .ref qg, .int 0, .int 0, .int 0, .int 0, .int 0])), (qo, .inl (cL, 1, .inr (.inl (fun _ => 0))))] U.heap ∧ va_K (dC, dI) vwCl [(cL, .long)] U ∧ va_D (fun _ => True) [(h0, .inr (9, [.ref qm, .ref qt, .ref qw, .ref qc, .ref qb, .ref qg, .int 0, .int 0, .int 0, .int 0, .int 0])), (qo, .inl (cL, 1, .inr (.inl (fun _ => 0))))] ∧ zB a0 (va_A [(h0, .inr (9, [.ref qm, .ref qt, .ref qw, .ref qc, .ref qb, .ref qg, .int 0, .int 0, .int 0, .int 0, .int 0])), (qo, .inl (cL, 1, .inr (.inl (fun _ => 0))))] sz) U U.heap)) (va_Qi (fun (r : Int32) (_ : Unit) => r = 1) (fun _ t => va_P (dC, dI) vwCl [] t.heap ∧ va_K (dC, dI) vwCl [] t ∧ va_D (va_A [(h0, .inr (9, [.ref qm, .ref qt, .ref qw, .ref qc, .ref qb, .ref qg, .int 0, .int 0, .int 0, .int 0, .int 0])), (qo, .inl (cL, 1, .inr (.inl (fun _ => 0))))] sz) []) (va_A [(h0, .inr (9, [.ref qm, .ref qt, .ref qw, .ref qc, .ref qb, .ref qg, .int 0, .int 0, .int 0, .int 0, .int 0])), (qo, .inl (cL, 1, .inr (.inl (fun _ => 0))))] sz)) 1 6 (va_A [(h0, .inr (9, [.ref qm, .ref qt, .ref qw, .ref qc, .ref qb, .ref qg, .int 0, .int 0, .int 0, .int 0, .int 0])), (qo, .inl (cL, 1, .inr (.inl (fun _ => 0))))] sz) := by
  refine va_MetW (cc := cL_amend) (maxL := 9) (ret := (some .int)) (hh := [(0, 25, 28, 21), (0, 25, 32, 13), (0, 25, 36, 15)]) (by decide) rfl ?_
  intro p e s m args below meth c s₁ B hml hv
  obtain ⟨rfl, hsz, hP, hK, hD0, hZ⟩ := hv
  have hx := B.exec
  have hb := B.bytes
  have hr := B.returns
  have hts := atoms_spec (ws := zs_c_L_amend) B.pre
  have hown : s.vm.findClass RL = some m.cls := findClass_of_methodNamed B.named
  have hlocks := B.notSynchronized
  subst hsz
  have hD := hD0.self (sz := s.heap.size)
  generalize hAe : va_A [(h0, .inr (9, [.ref qm, .ref qt, .ref qw, .ref qc, .ref qb, .ref qg, .int 0, .int 0, .int 0, .int 0, .int 0])), (qo, .inl (cL, 1, .inr (.inl (fun _ => 0))))] s.heap.size = A at hD hZ ⊢
  have hA : ∀ q : Nat, s.heap.size ≤ q → A q := fun q h => by rw [← hAe]; exact Or.inr h
  have hS : va_S A s.heap s.heap [] := va_S.rf
  have hl := lv_entry ([.ref h0, .int p0, .int p1, .int p2, .int p3, .int p4, .int p5, .ref qo]) (n := 9) (Nat.le_of_ble_eq_true rfl)
  rw [lg_entry_eq]
  generalize (lg_sl ([.ref h0, .int p0, .int p1, .int p2, .int p3, .int p4, .int p5, .ref qo]) ++ List.replicate (9 - (lg_sl ([.ref h0, .int p0, .int p1, .int p2, .int p3, .int p4, .int p5, .ref qo])).length) Slot.unset).toArray = ls at hl ⊢
  have hl : lv_has ls 9 [(0, .ref h0), (1, .int p0), (2, .int p1), (3, .int p2), (4, .int p3), (5, .int p4), (6, .int p5), (7, .ref qo)] := hl
  refine lv_aload hx hb dL_amend_0 (lv_at hl 7 rfl) ?_
  refine lv_iconst (v := 0) hx hb dL_amend_2 (by decide) ?_
  refine lv_aload_n hx hb dL_amend_3 rfl (lv_at hl 0 rfl) ?_
  refine lv_iload_n hx hb dL_amend_4 rfl (lv_at hl 1 rfl) ?_
  refine lv_iload_n hx hb dL_amend_5 rfl (lv_at hl 2 rfl) ?_
  refine lv_iload_n hx hb dL_amend_6 rfl (lv_at hl 3 rfl) ?_
  refine lv_iload hx hb dL_amend_7 (lv_at hl 4 rfl) ?_
  refine lv_iload hx hb dL_amend_9 (lv_at hl 5 rfl) ?_
  refine lv_iload hx hb dL_amend_11 (lv_at hl 6 rfl) ?_
  have hPc := hP.sub (ws' := [(h0, .inr (9, [.ref qm, .ref qt, .ref qw, .ref qc, .ref qb, .ref qg, .int 0, .int 0, .int 0, .int 0, .int 0]))]) [0] rfl
  have hDc := hD.sub (ws' := [(h0, .inr (9, [.ref qm, .ref qt, .ref qw, .ref qc, .ref qb, .ref qg, .int 0, .int 0, .int 0, .int 0, .int 0]))]) [0] (by decide) rfl
  have hKc := hK.sub (tys' := []) [] rfl
  have hFc := va_free (wc := [(h0, .inr (9, [.ref qm, .ref qt, .ref qw, .ref qc, .ref qb, .ref qg, .int 0, .int 0, .int 0, .int 0, .int 0]))]) hD hS hA [0] rfl
  have hZc := ((hZ.kept hS.2.1).narrow hFc)
  refine vx_calli (vx_runV (As := [.int p0, .int p1, .int p2, .int p3, .int p4, .int p5]) (rest := [.int 0, .ref qo]) ⟨hx, hb, hml, hown, hts⟩ (c_X7_amend l hnt dC dI a0 h0 qm qt qw qc qb qg p0 p1 p2 p3 p4 p5 s.heap.size ) (cwV 6 hts (goodIn_of _ (by decide +kernel)) rfl rfl rfl (by decide +kernel) ⟨Nat.le_of_ble_eq_true rfl, Nat.le_of_ble_eq_true rfl⟩) ⟨fun a U g mk q => by obtain ⟨q0, q1, qP, qK, qD, qZ⟩ := q; exact ⟨q0, q1, qP, va_K.moved (u := U) (U := U.calling g mk a) (Vm.Alike.refl U.vm) qK, qD, qZ.call⟩, va_recv hKc hPc (ci := 9) (q0 := 0) rfl rfl, fun U hU hW => ⟨rfl, by rw [hU], by rw [hU]; exact hPc, va_K.moved hW.alike hKc, hDc.weaken (fun _ _ _ _ => trivial), by rw [hU]; exact hZc.warm hW⟩⟩ rfl rfl hl.1 rfl (lv_room (Nat.le_of_ble_eq_true rfl)) dL_amend_13 ⟨Nat.le_of_ble_eq_true rfl, Nat.le_of_ble_eq_true rfl⟩) hS (fun q _ h => hFc q h) hFc (fun q _ h => hFc q h) (fun E ce q9 u t H1 locs ht hvm hw hB hz1 hk1 hS hce hcv hcl => ?_) (fun r_1 u t H1 locs ht hvm hw hB hz1 hk1 hS => ?_)
  · obtain rfl := hB
    obtain ⟨hP, hD⟩ := va_join (D := (dC, dI)) (cl := vwCl) (wr := [(qo, .inl (cL, 1, .inr (.inl (fun _ => 0))))]) (w1 := []) hP hD [0] [1] rfl rfl (by decide) (by decide) hk1 hFc (fun k q h => by simp at h) ⟨fun i j p q h => by simp at h, fun k q h => by simp at h⟩
    refine vx_catch hown [] ⟨0, 25, 28, 21⟩ (tableOf [(0, 25, 28, 21), (0, 25, 32, 13), (0, 25, 36, 15)]).tail ((vx_table (x := yL_amend) B (hts (.codeWith yL_amend cL_amend 9 (some .int) [(0, 25, 28, 21), (0, 25, 32, 13), (0, 25, 36, 15)]) (by decide +kernel))).trans rfl) (fun z h => by simp at h) (by decide) (by decide) (hts (.classLink RL 21 "java/lang/IndexOutOfBoundsException") (by decide +kernel)) (zz_cast (hts (.instantiable "java/lang/IndexOutOfBoundsException" 6) (by decide +kernel))) hce hcv hcl ?_
    generalize H1 = H at hP hS ⊢
    have hP : va_P (dC, dI) vwCl [(qo, .inl (cL, 1, .inr (.inl (fun _ => 0))))] H := hP
    have hD : va_D A [(qo, .inl (cL, 1, .inr (.inl (fun _ => 0))))] := hD
    refine W.widen (k := 1) (n := 6) (Nat.le_of_ble_eq_true rfl) (Nat.le_of_ble_eq_true rfl) ?_
    refine lv_astore (lv' := [(8, .ref q9), (0, .ref h0), (1, .int p0), (2, .int p1), (3, .int p2), (4, .int p3), (5, .int p4), (6, .int p5), (7, .ref qo)]) hx hb dL_amend_28 hl (by decide) rfl (fun ls hl => ?_)
    refine lv_iconst (v := 1) hx hb dL_amend_30 (by decide) ?_
    have hP9 := hP.sub (ws' := []) [] rfl
    have hD9 := hD.sub (ws' := []) [] (by decide) rfl
    have hK9 := hK.sub (tys' := []) [] rfl
    refine W.widen (k := 1) (n := 6) (Nat.le_of_ble_eq_true rfl) (Nat.le_of_ble_eq_true rfl) ?_
    exact W.iret (v := 1) hx hb hr (fun t ht hW => ⟨⟨1, (), rfl, rfl, ⟨by rw [ht]; exact hP9, va_K.moved hW.alike hK9, hD9⟩⟩, hS.F ht⟩) hS.2.2 dL_amend_31
  exact hB.elim

def zs_c_L_child : List Cond := .codeWith yL_child cL_child 5 (some .int) [(0, 10, 13, 21), (0, 10, 17, 13), (0, 10, 21, 15)] :: (([.code yX7_child cX7_child 5 (some .int), .code yX7_find cX7_find 3 (some (.object "Haltingale$Machine")), .classLink RX7 301 "java/lang/IndexOutOfBoundsException", .initialized "java/lang/IndexOutOfBoundsException", .fieldLink RX7 148 "Haltingale" "machineCount" "I", .methodLink RX7 67 yX7_find, .instanceMethod yX7_find, .initialized RX7, .selects RX7 yX7_find yX7_find, .methodLink RL 27 yX7_child, .instanceMethod yX7_child, .selects RX7 yX7_child yX7_child, .classLink RL 21 "java/lang/IndexOutOfBoundsException"] : List Cond) ++ (vx_atS RX7 305 "java/lang/IndexOutOfBoundsException" ["java/lang/RuntimeException", "java/lang/Exception"]).filter goodWord ++ wsX70)
set_option maxHeartbeats 4000000 in
set_option maxRecDepth 100000 in
/-- the law's child, refused -/
theorem c_L_child (l : Launch) (hnt : l.stackTraces = false) (dC : Nat → ClassId) (dI : Nat → Nat → Nat) (a0 : Nat) (h0 : Nat) (qm : Nat) (qt : Nat) (qw : Nat) (qc : Nat) (qb : Nat) (qg : Nat) (qo : Nat) (cL : ClassId) (p0 : Int32) (p1 : Int32) (sz : Nat)  : Met l yL_child zs_c_L_child ({ frames := 8, cells := 1, slots := 6, locals := 128 }) (va_Pc [.ref h0, .int p0, .int p1, .ref qo] (fun U => U.heap.size = sz ∧ va_P (dC, dI) vwCl [(h0, .inr (9, [.ref qm, .ref qt, .ref qw, .ref qc, .ref qb, .ref qg, .int 0, .int 0, .int 0, .int 0, .int 0])), (qo, .inl (cL, 1, .inr (.inl (fun _ => 0))))] U.heap ∧ va_K (dC, dI) vwCl [(cL, .long)] U ∧ va_D (fun _ => True) [(h0, .inr (9, [.ref qm, .ref qt, .ref qw, .ref qc, .ref qb, .ref qg, .int 0, .int 0, .int 0, .int 0, .int 0])), (qo, .inl (cL, 1, .inr (.inl (fun _ => 0))))] ∧ zB a0 (va_A [(h0, .inr (9, [.ref qm, .ref qt, .ref qw, .ref qc, .ref qb, .ref qg, .int 0, .int 0, .int 0, .int 0, .int 0])), (qo, .inl (cL, 1, .inr (.inl (fun _ => 0))))] sz) U U.heap)) (va_Qi (fun (r : Int32) (_ : Unit) => r = 1) (fun _ t => va_P (dC, dI) vwCl [] t.heap ∧ va_K (dC, dI) vwCl [] t ∧ va_D (va_A [(h0, .inr (9, [.ref qm, .ref qt, .ref qw, .ref qc, .ref qb, .ref qg, .int 0, .int 0, .int 0, .int 0, .int 0])), (qo, .inl (cL, 1, .inr (.inl (fun _ => 0))))] sz) []) (va_A [(h0, .inr (9, [.ref qm, .ref qt, .ref qw, .ref qc, .ref qb, .ref qg, .int 0, .int 0, .int 0, .int 0, .int 0])), (qo, .inl (cL, 1, .inr (.inl (fun _ => 0))))] sz)) 1 6 (va_A [(h0, .inr (9, [.ref qm, .ref qt, .ref qw, .ref qc, .ref qb, .ref qg, .int 0, .int 0, .int 0, .int 0, .int 0])), (qo, .inl (cL, 1, .inr (.inl (fun _ => 0))))] sz) := by
  refine va_MetW (cc := cL_child) (maxL := 5) (ret := (some .int)) (hh := [(0, 10, 13, 21), (0, 10, 17, 13), (0, 10, 21, 15)]) (by decide) rfl ?_
  intro p e s m args below meth c s₁ B hml hv
  obtain ⟨rfl, hsz, hP, hK, hD0, hZ⟩ := hv
  have hx := B.exec
  have hb := B.bytes
  have hr := B.returns
  have hts := atoms_spec (ws := zs_c_L_child) B.pre
  have hown : s.vm.findClass RL = some m.cls := findClass_of_methodNamed B.named
  have hlocks := B.notSynchronized
  subst hsz
  have hD := hD0.self (sz := s.heap.size)
  generalize hAe : va_A [(h0, .inr (9, [.ref qm, .ref qt, .ref qw, .ref qc, .ref qb, .ref qg, .int 0, .int 0, .int 0, .int 0, .int 0])), (qo, .inl (cL, 1, .inr (.inl (fun _ => 0))))] s.heap.size = A at hD hZ ⊢
  have hA : ∀ q : Nat, s.heap.size ≤ q → A q := fun q h => by rw [← hAe]; exact Or.inr h
  have hS : va_S A s.heap s.heap [] := va_S.rf
  have hl := lv_entry ([.ref h0, .int p0, .int p1, .ref qo]) (n := 5) (Nat.le_of_ble_eq_true rfl)
  rw [lg_entry_eq]
  generalize (lg_sl ([.ref h0, .int p0, .int p1, .ref qo]) ++ List.replicate (5 - (lg_sl ([.ref h0, .int p0, .int p1, .ref qo])).length) Slot.unset).toArray = ls at hl ⊢
  have hl : lv_has ls 5 [(0, .ref h0), (1, .int p0), (2, .int p1), (3, .ref qo)] := hl
  refine lv_aload_n hx hb dL_child_0 rfl (lv_at hl 3 rfl) ?_
  refine lv_iconst (v := 0) hx hb dL_child_1 (by decide) ?_
  refine lv_aload_n hx hb dL_child_2 rfl (lv_at hl 0 rfl) ?_
  refine lv_iload_n hx hb dL_child_3 rfl (lv_at hl 1 rfl) ?_
  refine lv_iload_n hx hb dL_child_4 rfl (lv_at hl 2 rfl) ?_
  have hPc := hP.sub (ws' := [(h0, .inr (9, [.ref qm, .ref qt, .ref qw, .ref qc, .ref qb, .ref qg, .int 0, .int 0, .int 0, .int 0, .int 0]))]) [0] rfl
  have hDc := hD.sub (ws' := [(h0, .inr (9, [.ref qm, .ref qt, .ref qw, .ref qc, .ref qb, .ref qg, .int 0, .int 0, .int 0, .int 0, .int 0]))]) [0] (by decide) rfl
  have hKc := hK.sub (tys' := []) [] rfl
  have hFc := va_free (wc := [(h0, .inr (9, [.ref qm, .ref qt, .ref qw, .ref qc, .ref qb, .ref qg, .int 0, .int 0, .int 0, .int 0, .int 0]))]) hD hS hA [0] rfl
  have hZc := ((hZ.kept hS.2.1).narrow hFc)
  refine vx_calli (vx_runV (As := [.int p0, .int p1]) (rest := [.int 0, .ref qo]) ⟨hx, hb, hml, hown, hts⟩ (c_X7_child l hnt dC dI a0 h0 qm qt qw qc qb qg p0 p1 s.heap.size ) (cwV 2 hts (goodIn_of _ (by decide +kernel)) rfl rfl rfl (by decide +kernel) ⟨Nat.le_of_ble_eq_true rfl, Nat.le_of_ble_eq_true rfl⟩) ⟨fun a U g mk q => by obtain ⟨q0, q1, qP, qK, qD, qZ⟩ := q; exact ⟨q0, q1, qP, va_K.moved (u := U) (U := U.calling g mk a) (Vm.Alike.refl U.vm) qK, qD, qZ.call⟩, va_recv hKc hPc (ci := 9) (q0 := 0) rfl rfl, fun U hU hW => ⟨rfl, by rw [hU], by rw [hU]; exact hPc, va_K.moved hW.alike hKc, hDc.weaken (fun _ _ _ _ => trivial), by rw [hU]; exact hZc.warm hW⟩⟩ rfl rfl hl.1 rfl (lv_room (Nat.le_of_ble_eq_true rfl)) dL_child_5 ⟨Nat.le_of_ble_eq_true rfl, Nat.le_of_ble_eq_true rfl⟩) hS (fun q _ h => hFc q h) hFc (fun q _ h => hFc q h) (fun E ce q9 u t H1 locs ht hvm hw hB hz1 hk1 hS hce hcv hcl => ?_) (fun r_1 u t H1 locs ht hvm hw hB hz1 hk1 hS => ?_)
  · obtain rfl := hB
    obtain ⟨hP, hD⟩ := va_join (D := (dC, dI)) (cl := vwCl) (wr := [(qo, .inl (cL, 1, .inr (.inl (fun _ => 0))))]) (w1 := []) hP hD [0] [1] rfl rfl (by decide) (by decide) hk1 hFc (fun k q h => by simp at h) ⟨fun i j p q h => by simp at h, fun k q h => by simp at h⟩
    refine vx_catch hown [] ⟨0, 10, 13, 21⟩ (tableOf [(0, 10, 13, 21), (0, 10, 17, 13), (0, 10, 21, 15)]).tail ((vx_table (x := yL_child) B (hts (.codeWith yL_child cL_child 5 (some .int) [(0, 10, 13, 21), (0, 10, 17, 13), (0, 10, 21, 15)]) (by decide +kernel))).trans rfl) (fun z h => by simp at h) (by decide) (by decide) (hts (.classLink RL 21 "java/lang/IndexOutOfBoundsException") (by decide +kernel)) (zz_cast (hts (.instantiable "java/lang/IndexOutOfBoundsException" 6) (by decide +kernel))) hce hcv hcl ?_
    generalize H1 = H at hP hS ⊢
    have hP : va_P (dC, dI) vwCl [(qo, .inl (cL, 1, .inr (.inl (fun _ => 0))))] H := hP
    have hD : va_D A [(qo, .inl (cL, 1, .inr (.inl (fun _ => 0))))] := hD
    refine W.widen (k := 1) (n := 6) (Nat.le_of_ble_eq_true rfl) (Nat.le_of_ble_eq_true rfl) ?_
    refine lv_astore (lv' := [(4, .ref q9), (0, .ref h0), (1, .int p0), (2, .int p1), (3, .ref qo)]) hx hb dL_child_13 hl (by decide) rfl (fun ls hl => ?_)
    refine lv_iconst (v := 1) hx hb dL_child_15 (by decide) ?_
    have hP9 := hP.sub (ws' := []) [] rfl
    have hD9 := hD.sub (ws' := []) [] (by decide) rfl
    have hK9 := hK.sub (tys' := []) [] rfl
    refine W.widen (k := 1) (n := 6) (Nat.le_of_ble_eq_true rfl) (Nat.le_of_ble_eq_true rfl) ?_
    exact W.iret (v := 1) hx hb hr (fun t ht hW => ⟨⟨1, (), rfl, rfl, ⟨by rw [ht]; exact hP9, va_K.moved hW.alike hK9, hD9⟩⟩, hS.F ht⟩) hS.2.2 dL_child_16
  exact hB.elim

def zs_c_L_prove : List Cond := .codeWith yL_prove cL_prove 7 (some .int) [(0, 21, 24, 21), (0, 21, 28, 13), (0, 21, 32, 15)] :: (([.code yX7_prove cX7_prove 6 (some .boolean), .code yX7_find cX7_find 3 (some (.object "Haltingale$Machine")), .classLink RX7 301 "java/lang/IndexOutOfBoundsException", .initialized "java/lang/IndexOutOfBoundsException", .fieldLink RX7 148 "Haltingale" "machineCount" "I", .methodLink RX7 67 yX7_find, .instanceMethod yX7_find, .initialized RX7, .selects RX7 yX7_find yX7_find, .methodLink RL 35 yX7_prove, .instanceMethod yX7_prove, .selects RX7 yX7_prove yX7_prove, .classLink RL 21 "java/lang/IndexOutOfBoundsException"] : List Cond) ++ (vx_atS RX7 305 "java/lang/IndexOutOfBoundsException" ["java/lang/RuntimeException", "java/lang/Exception"]).filter goodWord ++ wsX70)
set_option maxHeartbeats 4000000 in
set_option maxRecDepth 100000 in
/-- the law's prove, refused -/
theorem c_L_prove (l : Launch) (hnt : l.stackTraces = false) (dC : Nat → ClassId) (dI : Nat → Nat → Nat) (a0 : Nat) (h0 : Nat) (qm : Nat) (qt : Nat) (qw : Nat) (qc : Nat) (qb : Nat) (qg : Nat) (qo : Nat) (cL : ClassId) (p0 : Int32) (p1 : Int32) (p2 : Int32) (p3 : Int32) (sz : Nat)  : Met l yL_prove zs_c_L_prove ({ frames := 8, cells := 1, slots := 6, locals := 129 }) (va_Pc [.ref h0, .int p0, .int p1, .int p2, .int p3, .ref qo] (fun U => U.heap.size = sz ∧ va_P (dC, dI) vwCl [(h0, .inr (9, [.ref qm, .ref qt, .ref qw, .ref qc, .ref qb, .ref qg, .int 0, .int 0, .int 0, .int 0, .int 0])), (qo, .inl (cL, 1, .inr (.inl (fun _ => 0))))] U.heap ∧ va_K (dC, dI) vwCl [(cL, .long)] U ∧ va_D (fun _ => True) [(h0, .inr (9, [.ref qm, .ref qt, .ref qw, .ref qc, .ref qb, .ref qg, .int 0, .int 0, .int 0, .int 0, .int 0])), (qo, .inl (cL, 1, .inr (.inl (fun _ => 0))))] ∧ zB a0 (va_A [(h0, .inr (9, [.ref qm, .ref qt, .ref qw, .ref qc, .ref qb, .ref qg, .int 0, .int 0, .int 0, .int 0, .int 0])), (qo, .inl (cL, 1, .inr (.inl (fun _ => 0))))] sz) U U.heap)) (va_Qi (fun (r : Int32) (_ : Unit) => r = 1) (fun _ t => va_P (dC, dI) vwCl [] t.heap ∧ va_K (dC, dI) vwCl [] t ∧ va_D (va_A [(h0, .inr (9, [.ref qm, .ref qt, .ref qw, .ref qc, .ref qb, .ref qg, .int 0, .int 0, .int 0, .int 0, .int 0])), (qo, .inl (cL, 1, .inr (.inl (fun _ => 0))))] sz) []) (va_A [(h0, .inr (9, [.ref qm, .ref qt, .ref qw, .ref qc, .ref qb, .ref qg, .int 0, .int 0, .int 0, .int 0, .int 0])), (qo, .inl (cL, 1, .inr (.inl (fun _ => 0))))] sz)) 1 6 (va_A [(h0, .inr (9, [.ref qm, .ref qt, .ref qw, .ref qc, .ref qb, .ref qg, .int 0, .int 0, .int 0, .int 0, .int 0])), (qo, .inl (cL, 1, .inr (.inl (fun _ => 0))))] sz) := by
  refine va_MetW (cc := cL_prove) (maxL := 7) (ret := (some .int)) (hh := [(0, 21, 24, 21), (0, 21, 28, 13), (0, 21, 32, 15)]) (by decide) rfl ?_
  intro p e s m args below meth c s₁ B hml hv
  obtain ⟨rfl, hsz, hP, hK, hD0, hZ⟩ := hv
  have hx := B.exec
  have hb := B.bytes
  have hr := B.returns
  have hts := atoms_spec (ws := zs_c_L_prove) B.pre
  have hown : s.vm.findClass RL = some m.cls := findClass_of_methodNamed B.named
  have hlocks := B.notSynchronized
  subst hsz
  have hD := hD0.self (sz := s.heap.size)
  generalize hAe : va_A [(h0, .inr (9, [.ref qm, .ref qt, .ref qw, .ref qc, .ref qb, .ref qg, .int 0, .int 0, .int 0, .int 0, .int 0])), (qo, .inl (cL, 1, .inr (.inl (fun _ => 0))))] s.heap.size = A at hD hZ ⊢
  have hA : ∀ q : Nat, s.heap.size ≤ q → A q := fun q h => by rw [← hAe]; exact Or.inr h
  have hS : va_S A s.heap s.heap [] := va_S.rf
  have hl := lv_entry ([.ref h0, .int p0, .int p1, .int p2, .int p3, .ref qo]) (n := 7) (Nat.le_of_ble_eq_true rfl)
  rw [lg_entry_eq]
  generalize (lg_sl ([.ref h0, .int p0, .int p1, .int p2, .int p3, .ref qo]) ++ List.replicate (7 - (lg_sl ([.ref h0, .int p0, .int p1, .int p2, .int p3, .ref qo])).length) Slot.unset).toArray = ls at hl ⊢
  have hl : lv_has ls 7 [(0, .ref h0), (1, .int p0), (2, .int p1), (3, .int p2), (4, .int p3), (5, .ref qo)] := hl
  refine lv_aload hx hb dL_prove_0 (lv_at hl 5 rfl) ?_
  refine lv_iconst (v := 0) hx hb dL_prove_2 (by decide) ?_
  refine lv_aload_n hx hb dL_prove_3 rfl (lv_at hl 0 rfl) ?_
  refine lv_iload_n hx hb dL_prove_4 rfl (lv_at hl 1 rfl) ?_
  refine lv_iload_n hx hb dL_prove_5 rfl (lv_at hl 2 rfl) ?_
  refine lv_iload_n hx hb dL_prove_6 rfl (lv_at hl 3 rfl) ?_
  refine lv_iload hx hb dL_prove_7 (lv_at hl 4 rfl) ?_
  have hPc := hP.sub (ws' := [(h0, .inr (9, [.ref qm, .ref qt, .ref qw, .ref qc, .ref qb, .ref qg, .int 0, .int 0, .int 0, .int 0, .int 0]))]) [0] rfl
  have hDc := hD.sub (ws' := [(h0, .inr (9, [.ref qm, .ref qt, .ref qw, .ref qc, .ref qb, .ref qg, .int 0, .int 0, .int 0, .int 0, .int 0]))]) [0] (by decide) rfl
  have hKc := hK.sub (tys' := []) [] rfl
  have hFc := va_free (wc := [(h0, .inr (9, [.ref qm, .ref qt, .ref qw, .ref qc, .ref qb, .ref qg, .int 0, .int 0, .int 0, .int 0, .int 0]))]) hD hS hA [0] rfl
  have hZc := ((hZ.kept hS.2.1).narrow hFc)
  refine vx_calli (vx_runV (As := [.int p0, .int p1, .int p2, .int p3]) (rest := [.int 0, .ref qo]) ⟨hx, hb, hml, hown, hts⟩ (c_X7_prove l hnt dC dI a0 h0 qm qt qw qc qb qg p0 p1 p2 p3 s.heap.size ) (cwV 4 hts (goodIn_of _ (by decide +kernel)) rfl rfl rfl (by decide +kernel) ⟨Nat.le_of_ble_eq_true rfl, Nat.le_of_ble_eq_true rfl⟩) ⟨fun a U g mk q => by obtain ⟨q0, q1, qP, qK, qD, qZ⟩ := q; exact ⟨q0, q1, qP, va_K.moved (u := U) (U := U.calling g mk a) (Vm.Alike.refl U.vm) qK, qD, qZ.call⟩, va_recv hKc hPc (ci := 9) (q0 := 0) rfl rfl, fun U hU hW => ⟨rfl, by rw [hU], by rw [hU]; exact hPc, va_K.moved hW.alike hKc, hDc.weaken (fun _ _ _ _ => trivial), by rw [hU]; exact hZc.warm hW⟩⟩ rfl rfl hl.1 rfl (lv_room (Nat.le_of_ble_eq_true rfl)) dL_prove_9 ⟨Nat.le_of_ble_eq_true rfl, Nat.le_of_ble_eq_true rfl⟩) hS (fun q _ h => hFc q h) hFc (fun q _ h => hFc q h) (fun E ce q9 u t H1 locs ht hvm hw hB hz1 hk1 hS hce hcv hcl => ?_) (fun r_1 u t H1 locs ht hvm hw hB hz1 hk1 hS => ?_)
  · obtain rfl := hB
    obtain ⟨hP, hD⟩ := va_join (D := (dC, dI)) (cl := vwCl) (wr := [(qo, .inl (cL, 1, .inr (.inl (fun _ => 0))))]) (w1 := []) hP hD [0] [1] rfl rfl (by decide) (by decide) hk1 hFc (fun k q h => by simp at h) ⟨fun i j p q h => by simp at h, fun k q h => by simp at h⟩
    refine vx_catch hown [] ⟨0, 21, 24, 21⟩ (tableOf [(0, 21, 24, 21), (0, 21, 28, 13), (0, 21, 32, 15)]).tail ((vx_table (x := yL_prove) B (hts (.codeWith yL_prove cL_prove 7 (some .int) [(0, 21, 24, 21), (0, 21, 28, 13), (0, 21, 32, 15)]) (by decide +kernel))).trans rfl) (fun z h => by simp at h) (by decide) (by decide) (hts (.classLink RL 21 "java/lang/IndexOutOfBoundsException") (by decide +kernel)) (zz_cast (hts (.instantiable "java/lang/IndexOutOfBoundsException" 6) (by decide +kernel))) hce hcv hcl ?_
    generalize H1 = H at hP hS ⊢
    have hP : va_P (dC, dI) vwCl [(qo, .inl (cL, 1, .inr (.inl (fun _ => 0))))] H := hP
    have hD : va_D A [(qo, .inl (cL, 1, .inr (.inl (fun _ => 0))))] := hD
    refine W.widen (k := 1) (n := 6) (Nat.le_of_ble_eq_true rfl) (Nat.le_of_ble_eq_true rfl) ?_
    refine lv_astore (lv' := [(6, .ref q9), (0, .ref h0), (1, .int p0), (2, .int p1), (3, .int p2), (4, .int p3), (5, .ref qo)]) hx hb dL_prove_24 hl (by decide) rfl (fun ls hl => ?_)
    refine lv_iconst (v := 1) hx hb dL_prove_26 (by decide) ?_
    have hP9 := hP.sub (ws' := []) [] rfl
    have hD9 := hD.sub (ws' := []) [] (by decide) rfl
    have hK9 := hK.sub (tys' := []) [] rfl
    refine W.widen (k := 1) (n := 6) (Nat.le_of_ble_eq_true rfl) (Nat.le_of_ble_eq_true rfl) ?_
    exact W.iret (v := 1) hx hb hr (fun t ht hW => ⟨⟨1, (), rfl, rfl, ⟨by rw [ht]; exact hP9, va_K.moved hW.alike hK9, hD9⟩⟩, hS.F ht⟩) hS.2.2 dL_prove_27
  exact hB.elim

def zs_c_L_decide : List Cond := .codeWith yL_decide cL_decide 4 (some .int) [(0, 9, 12, 21), (0, 9, 15, 15)] :: (([.code yX7_decide cX7_decide 6 (some .int), .code yX7_find cX7_find 3 (some (.object "Haltingale$Machine")), .classLink RX7 301 "java/lang/IndexOutOfBoundsException", .initialized "java/lang/IndexOutOfBoundsException", .fieldLink RX7 148 "Haltingale" "machineCount" "I", .methodLink RX7 67 yX7_find, .instanceMethod yX7_find, .initialized RX7, .selects RX7 yX7_find yX7_find, .methodLink RL 42 yX7_decide, .instanceMethod yX7_decide, .selects RX7 yX7_decide yX7_decide, .classLink RL 21 "java/lang/IndexOutOfBoundsException"] : List Cond) ++ (vx_atS RX7 305 "java/lang/IndexOutOfBoundsException" ["java/lang/RuntimeException", "java/lang/Exception"]).filter goodWord ++ wsX70)
set_option maxHeartbeats 4000000 in
set_option maxRecDepth 100000 in
/-- the law's decide, refused -/
theorem c_L_decide (l : Launch) (hnt : l.stackTraces = false) (dC : Nat → ClassId) (dI : Nat → Nat → Nat) (a0 : Nat) (h0 : Nat) (qm : Nat) (qt : Nat) (qw : Nat) (qc : Nat) (qb : Nat) (qg : Nat) (qo : Nat) (cL : ClassId) (p0 : Int32) (sz : Nat)  : Met l yL_decide zs_c_L_decide ({ frames := 8, cells := 1, slots := 6, locals := 129 }) (va_Pc [.ref h0, .int p0, .ref qo] (fun U => U.heap.size = sz ∧ va_P (dC, dI) vwCl [(h0, .inr (9, [.ref qm, .ref qt, .ref qw, .ref qc, .ref qb, .ref qg, .int 0, .int 0, .int 0, .int 0, .int 0])), (qo, .inl (cL, 1, .inr (.inl (fun _ => 0))))] U.heap ∧ va_K (dC, dI) vwCl [(cL, .long)] U ∧ va_D (fun _ => True) [(h0, .inr (9, [.ref qm, .ref qt, .ref qw, .ref qc, .ref qb, .ref qg, .int 0, .int 0, .int 0, .int 0, .int 0])), (qo, .inl (cL, 1, .inr (.inl (fun _ => 0))))] ∧ zB a0 (va_A [(h0, .inr (9, [.ref qm, .ref qt, .ref qw, .ref qc, .ref qb, .ref qg, .int 0, .int 0, .int 0, .int 0, .int 0])), (qo, .inl (cL, 1, .inr (.inl (fun _ => 0))))] sz) U U.heap)) (va_Qi (fun (r : Int32) (_ : Unit) => r = 1) (fun _ t => va_P (dC, dI) vwCl [] t.heap ∧ va_K (dC, dI) vwCl [] t ∧ va_D (va_A [(h0, .inr (9, [.ref qm, .ref qt, .ref qw, .ref qc, .ref qb, .ref qg, .int 0, .int 0, .int 0, .int 0, .int 0])), (qo, .inl (cL, 1, .inr (.inl (fun _ => 0))))] sz) []) (va_A [(h0, .inr (9, [.ref qm, .ref qt, .ref qw, .ref qc, .ref qb, .ref qg, .int 0, .int 0, .int 0, .int 0, .int 0])), (qo, .inl (cL, 1, .inr (.inl (fun _ => 0))))] sz)) 1 6 (va_A [(h0, .inr (9, [.ref qm, .ref qt, .ref qw, .ref qc, .ref qb, .ref qg, .int 0, .int 0, .int 0, .int 0, .int 0])), (qo, .inl (cL, 1, .inr (.inl (fun _ => 0))))] sz) := by
  refine va_MetW (cc := cL_decide) (maxL := 4) (ret := (some .int)) (hh := [(0, 9, 12, 21), (0, 9, 15, 15)]) (by decide) rfl ?_
  intro p e s m args below meth c s₁ B hml hv
  obtain ⟨rfl, hsz, hP, hK, hD0, hZ⟩ := hv
  have hx := B.exec
  have hb := B.bytes
  have hr := B.returns
  have hts := atoms_spec (ws := zs_c_L_decide) B.pre
  have hown : s.vm.findClass RL = some m.cls := findClass_of_methodNamed B.named
  have hlocks := B.notSynchronized
  subst hsz
  have hD := hD0.self (sz := s.heap.size)
  generalize hAe : va_A [(h0, .inr (9, [.ref qm, .ref qt, .ref qw, .ref qc, .ref qb, .ref qg, .int 0, .int 0, .int 0, .int 0, .int 0])), (qo, .inl (cL, 1, .inr (.inl (fun _ => 0))))] s.heap.size = A at hD hZ ⊢
  have hA : ∀ q : Nat, s.heap.size ≤ q → A q := fun q h => by rw [← hAe]; exact Or.inr h
  have hS : va_S A s.heap s.heap [] := va_S.rf
  have hl := lv_entry ([.ref h0, .int p0, .ref qo]) (n := 4) (Nat.le_of_ble_eq_true rfl)
  rw [lg_entry_eq]
  generalize (lg_sl ([.ref h0, .int p0, .ref qo]) ++ List.replicate (4 - (lg_sl ([.ref h0, .int p0, .ref qo])).length) Slot.unset).toArray = ls at hl ⊢
  have hl : lv_has ls 4 [(0, .ref h0), (1, .int p0), (2, .ref qo)] := hl
  refine lv_aload_n hx hb dL_decide_0 rfl (lv_at hl 2 rfl) ?_
  refine lv_iconst (v := 0) hx hb dL_decide_1 (by decide) ?_
  refine lv_aload_n hx hb dL_decide_2 rfl (lv_at hl 0 rfl) ?_
  refine lv_iload_n hx hb dL_decide_3 rfl (lv_at hl 1 rfl) ?_
  have hPc := hP.sub (ws' := [(h0, .inr (9, [.ref qm, .ref qt, .ref qw, .ref qc, .ref qb, .ref qg, .int 0, .int 0, .int 0, .int 0, .int 0]))]) [0] rfl
  have hDc := hD.sub (ws' := [(h0, .inr (9, [.ref qm, .ref qt, .ref qw, .ref qc, .ref qb, .ref qg, .int 0, .int 0, .int 0, .int 0, .int 0]))]) [0] (by decide) rfl
  have hKc := hK.sub (tys' := []) [] rfl
  have hFc := va_free (wc := [(h0, .inr (9, [.ref qm, .ref qt, .ref qw, .ref qc, .ref qb, .ref qg, .int 0, .int 0, .int 0, .int 0, .int 0]))]) hD hS hA [0] rfl
  have hZc := ((hZ.kept hS.2.1).narrow hFc)
  refine vx_calli (vx_runV (As := [.int p0]) (rest := [.int 0, .ref qo]) ⟨hx, hb, hml, hown, hts⟩ (c_X7_decide l hnt dC dI a0 h0 qm qt qw qc qb qg p0 s.heap.size ) (cwV 1 hts (goodIn_of _ (by decide +kernel)) rfl rfl rfl (by decide +kernel) ⟨Nat.le_of_ble_eq_true rfl, Nat.le_of_ble_eq_true rfl⟩) ⟨fun a U g mk q => by obtain ⟨q0, q1, qP, qK, qD, qZ⟩ := q; exact ⟨q0, q1, qP, va_K.moved (u := U) (U := U.calling g mk a) (Vm.Alike.refl U.vm) qK, qD, qZ.call⟩, va_recv hKc hPc (ci := 9) (q0 := 0) rfl rfl, fun U hU hW => ⟨rfl, by rw [hU], by rw [hU]; exact hPc, va_K.moved hW.alike hKc, hDc.weaken (fun _ _ _ _ => trivial), by rw [hU]; exact hZc.warm hW⟩⟩ rfl rfl hl.1 rfl (lv_room (Nat.le_of_ble_eq_true rfl)) dL_decide_4 ⟨Nat.le_of_ble_eq_true rfl, Nat.le_of_ble_eq_true rfl⟩) hS (fun q _ h => hFc q h) hFc (fun q _ h => hFc q h) (fun E ce q9 u t H1 locs ht hvm hw hB hz1 hk1 hS hce hcv hcl => ?_) (fun r_1 u t H1 locs ht hvm hw hB hz1 hk1 hS => ?_)
  · obtain rfl := hB
    obtain ⟨hP, hD⟩ := va_join (D := (dC, dI)) (cl := vwCl) (wr := [(qo, .inl (cL, 1, .inr (.inl (fun _ => 0))))]) (w1 := []) hP hD [0] [1] rfl rfl (by decide) (by decide) hk1 hFc (fun k q h => by simp at h) ⟨fun i j p q h => by simp at h, fun k q h => by simp at h⟩
    refine vx_catch hown [] ⟨0, 9, 12, 21⟩ (tableOf [(0, 9, 12, 21), (0, 9, 15, 15)]).tail ((vx_table (x := yL_decide) B (hts (.codeWith yL_decide cL_decide 4 (some .int) [(0, 9, 12, 21), (0, 9, 15, 15)]) (by decide +kernel))).trans rfl) (fun z h => by simp at h) (by decide) (by decide) (hts (.classLink RL 21 "java/lang/IndexOutOfBoundsException") (by decide +kernel)) (zz_cast (hts (.instantiable "java/lang/IndexOutOfBoundsException" 6) (by decide +kernel))) hce hcv hcl ?_
    generalize H1 = H at hP hS ⊢
    have hP : va_P (dC, dI) vwCl [(qo, .inl (cL, 1, .inr (.inl (fun _ => 0))))] H := hP
    have hD : va_D A [(qo, .inl (cL, 1, .inr (.inl (fun _ => 0))))] := hD
    refine W.widen (k := 1) (n := 6) (Nat.le_of_ble_eq_true rfl) (Nat.le_of_ble_eq_true rfl) ?_
    refine lv_astore_n (lv' := [(3, .ref q9), (0, .ref h0), (1, .int p0), (2, .ref qo)]) hx hb dL_decide_12 rfl hl (by decide) rfl (fun ls hl => ?_)
    refine lv_iconst (v := 1) hx hb dL_decide_13 (by decide) ?_
    have hP9 := hP.sub (ws' := []) [] rfl
    have hD9 := hD.sub (ws' := []) [] (by decide) rfl
    have hK9 := hK.sub (tys' := []) [] rfl
    refine W.widen (k := 1) (n := 6) (Nat.le_of_ble_eq_true rfl) (Nat.le_of_ble_eq_true rfl) ?_
    exact W.iret (v := 1) hx hb hr (fun t ht hW => ⟨⟨1, (), rfl, rfl, ⟨by rw [ht]; exact hP9, va_K.moved hW.alike hK9, hD9⟩⟩, hS.F ht⟩) hS.2.2 dL_decide_14
  exact hB.elim

def zs_c_L_cell : List Cond := .codeWith yL_cell cL_cell 7 (some .int) [(0, 14, 17, 21), (0, 14, 21, 13)] :: (([.code yX7_cell cX7_cell 7 (some .int), .code yX7_find cX7_find 3 (some (.object "Haltingale$Machine")), .classLink RX7 301 "java/lang/IndexOutOfBoundsException", .initialized "java/lang/IndexOutOfBoundsException", .fieldLink RX7 148 "Haltingale" "machineCount" "I", .methodLink RX7 67 yX7_find, .instanceMethod yX7_find, .initialized RX7, .selects RX7 yX7_find yX7_find, .methodLink RL 45 yX7_cell, .instanceMethod yX7_cell, .selects RX7 yX7_cell yX7_cell, .classLink RL 21 "java/lang/IndexOutOfBoundsException"] : List Cond) ++ (vx_atS RX7 305 "java/lang/IndexOutOfBoundsException" ["java/lang/RuntimeException", "java/lang/Exception"]).filter goodWord ++ wsX70)
set_option maxHeartbeats 4000000 in
set_option maxRecDepth 100000 in
/-- the law's cell, refused -/
theorem c_L_cell (l : Launch) (hnt : l.stackTraces = false) (dC : Nat → ClassId) (dI : Nat → Nat → Nat) (a0 : Nat) (h0 : Nat) (qm : Nat) (qt : Nat) (qw : Nat) (qc : Nat) (qb : Nat) (qg : Nat) (qo : Nat) (cL : ClassId) (p0 : Int32) (p1 : Int32) (p2 : Int32) (p3 : Int32) (sz : Nat)  : Met l yL_cell zs_c_L_cell ({ frames := 8, cells := 1, slots := 6, locals := 130 }) (va_Pc [.ref h0, .int p0, .int p1, .int p2, .int p3, .ref qo] (fun U => U.heap.size = sz ∧ va_P (dC, dI) vwCl [(h0, .inr (9, [.ref qm, .ref qt, .ref qw, .ref qc, .ref qb, .ref qg, .int 0, .int 0, .int 0, .int 0, .int 0])), (qo, .inl (cL, 1, .inr (.inl (fun _ => 0))))] U.heap ∧ va_K (dC, dI) vwCl [(cL, .long)] U ∧ va_D (fun _ => True) [(h0, .inr (9, [.ref qm, .ref qt, .ref qw, .ref qc, .ref qb, .ref qg, .int 0, .int 0, .int 0, .int 0, .int 0])), (qo, .inl (cL, 1, .inr (.inl (fun _ => 0))))] ∧ zB a0 (va_A [(h0, .inr (9, [.ref qm, .ref qt, .ref qw, .ref qc, .ref qb, .ref qg, .int 0, .int 0, .int 0, .int 0, .int 0])), (qo, .inl (cL, 1, .inr (.inl (fun _ => 0))))] sz) U U.heap)) (va_Qi (fun (r : Int32) (_ : Unit) => r = 1) (fun _ t => va_P (dC, dI) vwCl [] t.heap ∧ va_K (dC, dI) vwCl [] t ∧ va_D (va_A [(h0, .inr (9, [.ref qm, .ref qt, .ref qw, .ref qc, .ref qb, .ref qg, .int 0, .int 0, .int 0, .int 0, .int 0])), (qo, .inl (cL, 1, .inr (.inl (fun _ => 0))))] sz) []) (va_A [(h0, .inr (9, [.ref qm, .ref qt, .ref qw, .ref qc, .ref qb, .ref qg, .int 0, .int 0, .int 0, .int 0, .int 0])), (qo, .inl (cL, 1, .inr (.inl (fun _ => 0))))] sz)) 1 6 (va_A [(h0, .inr (9, [.ref qm, .ref qt, .ref qw, .ref qc, .ref qb, .ref qg, .int 0, .int 0, .int 0, .int 0, .int 0])), (qo, .inl (cL, 1, .inr (.inl (fun _ => 0))))] sz) := by
  refine va_MetW (cc := cL_cell) (maxL := 7) (ret := (some .int)) (hh := [(0, 14, 17, 21), (0, 14, 21, 13)]) (by decide) rfl ?_
  intro p e s m args below meth c s₁ B hml hv
  obtain ⟨rfl, hsz, hP, hK, hD0, hZ⟩ := hv
  have hx := B.exec
  have hb := B.bytes
  have hr := B.returns
  have hts := atoms_spec (ws := zs_c_L_cell) B.pre
  have hown : s.vm.findClass RL = some m.cls := findClass_of_methodNamed B.named
  have hlocks := B.notSynchronized
  subst hsz
  have hD := hD0.self (sz := s.heap.size)
  generalize hAe : va_A [(h0, .inr (9, [.ref qm, .ref qt, .ref qw, .ref qc, .ref qb, .ref qg, .int 0, .int 0, .int 0, .int 0, .int 0])), (qo, .inl (cL, 1, .inr (.inl (fun _ => 0))))] s.heap.size = A at hD hZ ⊢
  have hA : ∀ q : Nat, s.heap.size ≤ q → A q := fun q h => by rw [← hAe]; exact Or.inr h
  have hS : va_S A s.heap s.heap [] := va_S.rf
  have hl := lv_entry ([.ref h0, .int p0, .int p1, .int p2, .int p3, .ref qo]) (n := 7) (Nat.le_of_ble_eq_true rfl)
  rw [lg_entry_eq]
  generalize (lg_sl ([.ref h0, .int p0, .int p1, .int p2, .int p3, .ref qo]) ++ List.replicate (7 - (lg_sl ([.ref h0, .int p0, .int p1, .int p2, .int p3, .ref qo])).length) Slot.unset).toArray = ls at hl ⊢
  have hl : lv_has ls 7 [(0, .ref h0), (1, .int p0), (2, .int p1), (3, .int p2), (4, .int p3), (5, .ref qo)] := hl
  refine lv_aload hx hb dL_cell_0 (lv_at hl 5 rfl) ?_
  refine lv_iconst (v := 0) hx hb dL_cell_2 (by decide) ?_
  refine lv_aload_n hx hb dL_cell_3 rfl (lv_at hl 0 rfl) ?_
  refine lv_iload_n hx hb dL_cell_4 rfl (lv_at hl 1 rfl) ?_
  refine lv_iload_n hx hb dL_cell_5 rfl (lv_at hl 2 rfl) ?_
  refine lv_iload_n hx hb dL_cell_6 rfl (lv_at hl 3 rfl) ?_
  refine lv_iload hx hb dL_cell_7 (lv_at hl 4 rfl) ?_
  have hPc := hP.sub (ws' := [(h0, .inr (9, [.ref qm, .ref qt, .ref qw, .ref qc, .ref qb, .ref qg, .int 0, .int 0, .int 0, .int 0, .int 0]))]) [0] rfl
  have hDc := hD.sub (ws' := [(h0, .inr (9, [.ref qm, .ref qt, .ref qw, .ref qc, .ref qb, .ref qg, .int 0, .int 0, .int 0, .int 0, .int 0]))]) [0] (by decide) rfl
  have hKc := hK.sub (tys' := []) [] rfl
  have hFc := va_free (wc := [(h0, .inr (9, [.ref qm, .ref qt, .ref qw, .ref qc, .ref qb, .ref qg, .int 0, .int 0, .int 0, .int 0, .int 0]))]) hD hS hA [0] rfl
  have hZc := ((hZ.kept hS.2.1).narrow hFc)
  refine vx_calli (vx_runV (As := [.int p0, .int p1, .int p2, .int p3]) (rest := [.int 0, .ref qo]) ⟨hx, hb, hml, hown, hts⟩ (c_X7_cell l hnt dC dI a0 h0 qm qt qw qc qb qg p0 p1 p2 p3 s.heap.size ) (cwV 4 hts (goodIn_of _ (by decide +kernel)) rfl rfl rfl (by decide +kernel) ⟨Nat.le_of_ble_eq_true rfl, Nat.le_of_ble_eq_true rfl⟩) ⟨fun a U g mk q => by obtain ⟨q0, q1, qP, qK, qD, qZ⟩ := q; exact ⟨q0, q1, qP, va_K.moved (u := U) (U := U.calling g mk a) (Vm.Alike.refl U.vm) qK, qD, qZ.call⟩, va_recv hKc hPc (ci := 9) (q0 := 0) rfl rfl, fun U hU hW => ⟨rfl, by rw [hU], by rw [hU]; exact hPc, va_K.moved hW.alike hKc, hDc.weaken (fun _ _ _ _ => trivial), by rw [hU]; exact hZc.warm hW⟩⟩ rfl rfl hl.1 rfl (lv_room (Nat.le_of_ble_eq_true rfl)) dL_cell_9 ⟨Nat.le_of_ble_eq_true rfl, Nat.le_of_ble_eq_true rfl⟩) hS (fun q _ h => hFc q h) hFc (fun q _ h => hFc q h) (fun E ce q9 u t H1 locs ht hvm hw hB hz1 hk1 hS hce hcv hcl => ?_) (fun r_1 u t H1 locs ht hvm hw hB hz1 hk1 hS => ?_)
  · obtain rfl := hB
    obtain ⟨hP, hD⟩ := va_join (D := (dC, dI)) (cl := vwCl) (wr := [(qo, .inl (cL, 1, .inr (.inl (fun _ => 0))))]) (w1 := []) hP hD [0] [1] rfl rfl (by decide) (by decide) hk1 hFc (fun k q h => by simp at h) ⟨fun i j p q h => by simp at h, fun k q h => by simp at h⟩
    refine vx_catch hown [] ⟨0, 14, 17, 21⟩ (tableOf [(0, 14, 17, 21), (0, 14, 21, 13)]).tail ((vx_table (x := yL_cell) B (hts (.codeWith yL_cell cL_cell 7 (some .int) [(0, 14, 17, 21), (0, 14, 21, 13)]) (by decide +kernel))).trans rfl) (fun z h => by simp at h) (by decide) (by decide) (hts (.classLink RL 21 "java/lang/IndexOutOfBoundsException") (by decide +kernel)) (zz_cast (hts (.instantiable "java/lang/IndexOutOfBoundsException" 6) (by decide +kernel))) hce hcv hcl ?_
    generalize H1 = H at hP hS ⊢
    have hP : va_P (dC, dI) vwCl [(qo, .inl (cL, 1, .inr (.inl (fun _ => 0))))] H := hP
    have hD : va_D A [(qo, .inl (cL, 1, .inr (.inl (fun _ => 0))))] := hD
    refine W.widen (k := 1) (n := 6) (Nat.le_of_ble_eq_true rfl) (Nat.le_of_ble_eq_true rfl) ?_
    refine lv_astore (lv' := [(6, .ref q9), (0, .ref h0), (1, .int p0), (2, .int p1), (3, .int p2), (4, .int p3), (5, .ref qo)]) hx hb dL_cell_17 hl (by decide) rfl (fun ls hl => ?_)
    refine lv_iconst (v := 1) hx hb dL_cell_19 (by decide) ?_
    have hP9 := hP.sub (ws' := []) [] rfl
    have hD9 := hD.sub (ws' := []) [] (by decide) rfl
    have hK9 := hK.sub (tys' := []) [] rfl
    refine W.widen (k := 1) (n := 6) (Nat.le_of_ble_eq_true rfl) (Nat.le_of_ble_eq_true rfl) ?_
    exact W.iret (v := 1) hx hb hr (fun t ht hW => ⟨⟨1, (), rfl, rfl, ⟨by rw [ht]; exact hP9, va_K.moved hW.alike hK9, hD9⟩⟩, hS.F ht⟩) hS.2.2 dL_cell_20
  exact hB.elim

def zs_c_L_ofMachine : List Cond := .codeWith yL_ofMachine cL_ofMachine 5 (some .int) [(0, 10, 13, 21), (0, 10, 17, 13)] :: (([.code yX7_ofMachine cX7_ofMachine 4 (some .int), .code yX7_find cX7_find 3 (some (.object "Haltingale$Machine")), .classLink RX7 301 "java/lang/IndexOutOfBoundsException", .initialized "java/lang/IndexOutOfBoundsException", .fieldLink RX7 148 "Haltingale" "machineCount" "I", .methodLink RX7 67 yX7_find, .instanceMethod yX7_find, .initialized RX7, .selects RX7 yX7_find yX7_find, .methodLink RL 49 yX7_ofMachine, .instanceMethod yX7_ofMachine, .selects RX7 yX7_ofMachine yX7_ofMachine, .classLink RL 21 "java/lang/IndexOutOfBoundsException"] : List Cond) ++ (vx_atS RX7 305 "java/lang/IndexOutOfBoundsException" ["java/lang/RuntimeException", "java/lang/Exception"]).filter goodWord ++ wsX70)
set_option maxHeartbeats 4000000 in
set_option maxRecDepth 100000 in
/-- the law's ofMachine, refused -/
theorem c_L_ofMachine (l : Launch) (hnt : l.stackTraces = false) (dC : Nat → ClassId) (dI : Nat → Nat → Nat) (a0 : Nat) (h0 : Nat) (qm : Nat) (qt : Nat) (qw : Nat) (qc : Nat) (qb : Nat) (qg : Nat) (qo : Nat) (cL : ClassId) (p0 : Int32) (p1 : Int32) (sz : Nat)  : Met l yL_ofMachine zs_c_L_ofMachine ({ frames := 8, cells := 1, slots := 6, locals := 127 }) (va_Pc [.ref h0, .int p0, .int p1, .ref qo] (fun U => U.heap.size = sz ∧ va_P (dC, dI) vwCl [(h0, .inr (9, [.ref qm, .ref qt, .ref qw, .ref qc, .ref qb, .ref qg, .int 0, .int 0, .int 0, .int 0, .int 0])), (qo, .inl (cL, 1, .inr (.inl (fun _ => 0))))] U.heap ∧ va_K (dC, dI) vwCl [(cL, .long)] U ∧ va_D (fun _ => True) [(h0, .inr (9, [.ref qm, .ref qt, .ref qw, .ref qc, .ref qb, .ref qg, .int 0, .int 0, .int 0, .int 0, .int 0])), (qo, .inl (cL, 1, .inr (.inl (fun _ => 0))))] ∧ zB a0 (va_A [(h0, .inr (9, [.ref qm, .ref qt, .ref qw, .ref qc, .ref qb, .ref qg, .int 0, .int 0, .int 0, .int 0, .int 0])), (qo, .inl (cL, 1, .inr (.inl (fun _ => 0))))] sz) U U.heap)) (va_Qi (fun (r : Int32) (_ : Unit) => r = 1) (fun _ t => va_P (dC, dI) vwCl [] t.heap ∧ va_K (dC, dI) vwCl [] t ∧ va_D (va_A [(h0, .inr (9, [.ref qm, .ref qt, .ref qw, .ref qc, .ref qb, .ref qg, .int 0, .int 0, .int 0, .int 0, .int 0])), (qo, .inl (cL, 1, .inr (.inl (fun _ => 0))))] sz) []) (va_A [(h0, .inr (9, [.ref qm, .ref qt, .ref qw, .ref qc, .ref qb, .ref qg, .int 0, .int 0, .int 0, .int 0, .int 0])), (qo, .inl (cL, 1, .inr (.inl (fun _ => 0))))] sz)) 1 6 (va_A [(h0, .inr (9, [.ref qm, .ref qt, .ref qw, .ref qc, .ref qb, .ref qg, .int 0, .int 0, .int 0, .int 0, .int 0])), (qo, .inl (cL, 1, .inr (.inl (fun _ => 0))))] sz) := by
  refine va_MetW (cc := cL_ofMachine) (maxL := 5) (ret := (some .int)) (hh := [(0, 10, 13, 21), (0, 10, 17, 13)]) (by decide) rfl ?_
  intro p e s m args below meth c s₁ B hml hv
  obtain ⟨rfl, hsz, hP, hK, hD0, hZ⟩ := hv
  have hx := B.exec
  have hb := B.bytes
  have hr := B.returns
  have hts := atoms_spec (ws := zs_c_L_ofMachine) B.pre
  have hown : s.vm.findClass RL = some m.cls := findClass_of_methodNamed B.named
  have hlocks := B.notSynchronized
  subst hsz
  have hD := hD0.self (sz := s.heap.size)
  generalize hAe : va_A [(h0, .inr (9, [.ref qm, .ref qt, .ref qw, .ref qc, .ref qb, .ref qg, .int 0, .int 0, .int 0, .int 0, .int 0])), (qo, .inl (cL, 1, .inr (.inl (fun _ => 0))))] s.heap.size = A at hD hZ ⊢
  have hA : ∀ q : Nat, s.heap.size ≤ q → A q := fun q h => by rw [← hAe]; exact Or.inr h
  have hS : va_S A s.heap s.heap [] := va_S.rf
  have hl := lv_entry ([.ref h0, .int p0, .int p1, .ref qo]) (n := 5) (Nat.le_of_ble_eq_true rfl)
  rw [lg_entry_eq]
  generalize (lg_sl ([.ref h0, .int p0, .int p1, .ref qo]) ++ List.replicate (5 - (lg_sl ([.ref h0, .int p0, .int p1, .ref qo])).length) Slot.unset).toArray = ls at hl ⊢
  have hl : lv_has ls 5 [(0, .ref h0), (1, .int p0), (2, .int p1), (3, .ref qo)] := hl
  refine lv_aload_n hx hb dL_ofMachine_0 rfl (lv_at hl 3 rfl) ?_
  refine lv_iconst (v := 0) hx hb dL_ofMachine_1 (by decide) ?_
  refine lv_aload_n hx hb dL_ofMachine_2 rfl (lv_at hl 0 rfl) ?_
  refine lv_iload_n hx hb dL_ofMachine_3 rfl (lv_at hl 1 rfl) ?_
  refine lv_iload_n hx hb dL_ofMachine_4 rfl (lv_at hl 2 rfl) ?_
  have hPc := hP.sub (ws' := [(h0, .inr (9, [.ref qm, .ref qt, .ref qw, .ref qc, .ref qb, .ref qg, .int 0, .int 0, .int 0, .int 0, .int 0]))]) [0] rfl
  have hDc := hD.sub (ws' := [(h0, .inr (9, [.ref qm, .ref qt, .ref qw, .ref qc, .ref qb, .ref qg, .int 0, .int 0, .int 0, .int 0, .int 0]))]) [0] (by decide) rfl
  have hKc := hK.sub (tys' := []) [] rfl
  have hFc := va_free (wc := [(h0, .inr (9, [.ref qm, .ref qt, .ref qw, .ref qc, .ref qb, .ref qg, .int 0, .int 0, .int 0, .int 0, .int 0]))]) hD hS hA [0] rfl
  have hZc := ((hZ.kept hS.2.1).narrow hFc)
  refine vx_calli (vx_runV (As := [.int p0, .int p1]) (rest := [.int 0, .ref qo]) ⟨hx, hb, hml, hown, hts⟩ (c_X7_ofMachine l hnt dC dI a0 h0 qm qt qw qc qb qg p0 p1 s.heap.size ) (cwV 2 hts (goodIn_of _ (by decide +kernel)) rfl rfl rfl (by decide +kernel) ⟨Nat.le_of_ble_eq_true rfl, Nat.le_of_ble_eq_true rfl⟩) ⟨fun a U g mk q => by obtain ⟨q0, q1, qP, qK, qD, qZ⟩ := q; exact ⟨q0, q1, qP, va_K.moved (u := U) (U := U.calling g mk a) (Vm.Alike.refl U.vm) qK, qD, qZ.call⟩, va_recv hKc hPc (ci := 9) (q0 := 0) rfl rfl, fun U hU hW => ⟨rfl, by rw [hU], by rw [hU]; exact hPc, va_K.moved hW.alike hKc, hDc.weaken (fun _ _ _ _ => trivial), by rw [hU]; exact hZc.warm hW⟩⟩ rfl rfl hl.1 rfl (lv_room (Nat.le_of_ble_eq_true rfl)) dL_ofMachine_5 ⟨Nat.le_of_ble_eq_true rfl, Nat.le_of_ble_eq_true rfl⟩) hS (fun q _ h => hFc q h) hFc (fun q _ h => hFc q h) (fun E ce q9 u t H1 locs ht hvm hw hB hz1 hk1 hS hce hcv hcl => ?_) (fun r_1 u t H1 locs ht hvm hw hB hz1 hk1 hS => ?_)
  · obtain rfl := hB
    obtain ⟨hP, hD⟩ := va_join (D := (dC, dI)) (cl := vwCl) (wr := [(qo, .inl (cL, 1, .inr (.inl (fun _ => 0))))]) (w1 := []) hP hD [0] [1] rfl rfl (by decide) (by decide) hk1 hFc (fun k q h => by simp at h) ⟨fun i j p q h => by simp at h, fun k q h => by simp at h⟩
    refine vx_catch hown [] ⟨0, 10, 13, 21⟩ (tableOf [(0, 10, 13, 21), (0, 10, 17, 13)]).tail ((vx_table (x := yL_ofMachine) B (hts (.codeWith yL_ofMachine cL_ofMachine 5 (some .int) [(0, 10, 13, 21), (0, 10, 17, 13)]) (by decide +kernel))).trans rfl) (fun z h => by simp at h) (by decide) (by decide) (hts (.classLink RL 21 "java/lang/IndexOutOfBoundsException") (by decide +kernel)) (zz_cast (hts (.instantiable "java/lang/IndexOutOfBoundsException" 6) (by decide +kernel))) hce hcv hcl ?_
    generalize H1 = H at hP hS ⊢
    have hP : va_P (dC, dI) vwCl [(qo, .inl (cL, 1, .inr (.inl (fun _ => 0))))] H := hP
    have hD : va_D A [(qo, .inl (cL, 1, .inr (.inl (fun _ => 0))))] := hD
    refine W.widen (k := 1) (n := 6) (Nat.le_of_ble_eq_true rfl) (Nat.le_of_ble_eq_true rfl) ?_
    refine lv_astore (lv' := [(4, .ref q9), (0, .ref h0), (1, .int p0), (2, .int p1), (3, .ref qo)]) hx hb dL_ofMachine_13 hl (by decide) rfl (fun ls hl => ?_)
    refine lv_iconst (v := 1) hx hb dL_ofMachine_15 (by decide) ?_
    have hP9 := hP.sub (ws' := []) [] rfl
    have hD9 := hD.sub (ws' := []) [] (by decide) rfl
    have hK9 := hK.sub (tys' := []) [] rfl
    refine W.widen (k := 1) (n := 6) (Nat.le_of_ble_eq_true rfl) (Nat.le_of_ble_eq_true rfl) ?_
    exact W.iret (v := 1) hx hb hr (fun t ht hW => ⟨⟨1, (), rfl, rfl, ⟨by rw [ht]; exact hP9, va_K.moved hW.alike hK9, hD9⟩⟩, hS.F ht⟩) hS.2.2 dL_ofMachine_16
  exact hB.elim

def zs_c_L_at : List Cond := .codeWith yL_at cL_at 6 (some .int) [(0, 12, 15, 21), (0, 12, 19, 13)] :: (([.code yX7_at cX7_at 5 (some .int), .code yX7_find cX7_find 3 (some (.object "Haltingale$Machine")), .classLink RX7 301 "java/lang/IndexOutOfBoundsException", .initialized "java/lang/IndexOutOfBoundsException", .fieldLink RX7 148 "Haltingale" "machineCount" "I", .methodLink RX7 67 yX7_find, .instanceMethod yX7_find, .initialized RX7, .selects RX7 yX7_find yX7_find, .methodLink RL 52 yX7_at, .instanceMethod yX7_at, .selects RX7 yX7_at yX7_at, .classLink RL 21 "java/lang/IndexOutOfBoundsException"] : List Cond) ++ (vx_atS RX7 305 "java/lang/IndexOutOfBoundsException" ["java/lang/RuntimeException", "java/lang/Exception"]).filter goodWord ++ wsX70)
set_option maxHeartbeats 4000000 in
set_option maxRecDepth 100000 in
/-- the law's at, refused -/
theorem c_L_at (l : Launch) (hnt : l.stackTraces = false) (dC : Nat → ClassId) (dI : Nat → Nat → Nat) (a0 : Nat) (h0 : Nat) (qm : Nat) (qt : Nat) (qw : Nat) (qc : Nat) (qb : Nat) (qg : Nat) (qo : Nat) (cL : ClassId) (p0 : Int32) (p1 : Int32) (p2 : Int32) (sz : Nat)  : Met l yL_at zs_c_L_at ({ frames := 8, cells := 1, slots := 6, locals := 128 }) (va_Pc [.ref h0, .int p0, .int p1, .int p2, .ref qo] (fun U => U.heap.size = sz ∧ va_P (dC, dI) vwCl [(h0, .inr (9, [.ref qm, .ref qt, .ref qw, .ref qc, .ref qb, .ref qg, .int 0, .int 0, .int 0, .int 0, .int 0])), (qo, .inl (cL, 1, .inr (.inl (fun _ => 0))))] U.heap ∧ va_K (dC, dI) vwCl [(cL, .long)] U ∧ va_D (fun _ => True) [(h0, .inr (9, [.ref qm, .ref qt, .ref qw, .ref qc, .ref qb, .ref qg, .int 0, .int 0, .int 0, .int 0, .int 0])), (qo, .inl (cL, 1, .inr (.inl (fun _ => 0))))] ∧ zB a0 (va_A [(h0, .inr (9, [.ref qm, .ref qt, .ref qw, .ref qc, .ref qb, .ref qg, .int 0, .int 0, .int 0, .int 0, .int 0])), (qo, .inl (cL, 1, .inr (.inl (fun _ => 0))))] sz) U U.heap)) (va_Qi (fun (r : Int32) (_ : Unit) => r = 1) (fun _ t => va_P (dC, dI) vwCl [] t.heap ∧ va_K (dC, dI) vwCl [] t ∧ va_D (va_A [(h0, .inr (9, [.ref qm, .ref qt, .ref qw, .ref qc, .ref qb, .ref qg, .int 0, .int 0, .int 0, .int 0, .int 0])), (qo, .inl (cL, 1, .inr (.inl (fun _ => 0))))] sz) []) (va_A [(h0, .inr (9, [.ref qm, .ref qt, .ref qw, .ref qc, .ref qb, .ref qg, .int 0, .int 0, .int 0, .int 0, .int 0])), (qo, .inl (cL, 1, .inr (.inl (fun _ => 0))))] sz)) 1 6 (va_A [(h0, .inr (9, [.ref qm, .ref qt, .ref qw, .ref qc, .ref qb, .ref qg, .int 0, .int 0, .int 0, .int 0, .int 0])), (qo, .inl (cL, 1, .inr (.inl (fun _ => 0))))] sz) := by
  refine va_MetW (cc := cL_at) (maxL := 6) (ret := (some .int)) (hh := [(0, 12, 15, 21), (0, 12, 19, 13)]) (by decide) rfl ?_
  intro p e s m args below meth c s₁ B hml hv
  obtain ⟨rfl, hsz, hP, hK, hD0, hZ⟩ := hv
  have hx := B.exec
  have hb := B.bytes
  have hr := B.returns
  have hts := atoms_spec (ws := zs_c_L_at) B.pre
  have hown : s.vm.findClass RL = some m.cls := findClass_of_methodNamed B.named
  have hlocks := B.notSynchronized
  subst hsz
  have hD := hD0.self (sz := s.heap.size)
  generalize hAe : va_A [(h0, .inr (9, [.ref qm, .ref qt, .ref qw, .ref qc, .ref qb, .ref qg, .int 0, .int 0, .int 0, .int 0, .int 0])), (qo, .inl (cL, 1, .inr (.inl (fun _ => 0))))] s.heap.size = A at hD hZ ⊢
  have hA : ∀ q : Nat, s.heap.size ≤ q → A q := fun q h => by rw [← hAe]; exact Or.inr h
  have hS : va_S A s.heap s.heap [] := va_S.rf
  have hl := lv_entry ([.ref h0, .int p0, .int p1, .int p2, .ref qo]) (n := 6) (Nat.le_of_ble_eq_true rfl)
  rw [lg_entry_eq]
  generalize (lg_sl ([.ref h0, .int p0, .int p1, .int p2, .ref qo]) ++ List.replicate (6 - (lg_sl ([.ref h0, .int p0, .int p1, .int p2, .ref qo])).length) Slot.unset).toArray = ls at hl ⊢
  have hl : lv_has ls 6 [(0, .ref h0), (1, .int p0), (2, .int p1), (3, .int p2), (4, .ref qo)] := hl
  refine lv_aload hx hb dL_at_0 (lv_at hl 4 rfl) ?_
  refine lv_iconst (v := 0) hx hb dL_at_2 (by decide) ?_
  refine lv_aload_n hx hb dL_at_3 rfl (lv_at hl 0 rfl) ?_
  refine lv_iload_n hx hb dL_at_4 rfl (lv_at hl 1 rfl) ?_
  refine lv_iload_n hx hb dL_at_5 rfl (lv_at hl 2 rfl) ?_
  refine lv_iload_n hx hb dL_at_6 rfl (lv_at hl 3 rfl) ?_
  have hPc := hP.sub (ws' := [(h0, .inr (9, [.ref qm, .ref qt, .ref qw, .ref qc, .ref qb, .ref qg, .int 0, .int 0, .int 0, .int 0, .int 0]))]) [0] rfl
  have hDc := hD.sub (ws' := [(h0, .inr (9, [.ref qm, .ref qt, .ref qw, .ref qc, .ref qb, .ref qg, .int 0, .int 0, .int 0, .int 0, .int 0]))]) [0] (by decide) rfl
  have hKc := hK.sub (tys' := []) [] rfl
  have hFc := va_free (wc := [(h0, .inr (9, [.ref qm, .ref qt, .ref qw, .ref qc, .ref qb, .ref qg, .int 0, .int 0, .int 0, .int 0, .int 0]))]) hD hS hA [0] rfl
  have hZc := ((hZ.kept hS.2.1).narrow hFc)
  refine vx_calli (vx_runV (As := [.int p0, .int p1, .int p2]) (rest := [.int 0, .ref qo]) ⟨hx, hb, hml, hown, hts⟩ (c_X7_at l hnt dC dI a0 h0 qm qt qw qc qb qg p0 p1 p2 s.heap.size ) (cwV 3 hts (goodIn_of _ (by decide +kernel)) rfl rfl rfl (by decide +kernel) ⟨Nat.le_of_ble_eq_true rfl, Nat.le_of_ble_eq_true rfl⟩) ⟨fun a U g mk q => by obtain ⟨q0, q1, qP, qK, qD, qZ⟩ := q; exact ⟨q0, q1, qP, va_K.moved (u := U) (U := U.calling g mk a) (Vm.Alike.refl U.vm) qK, qD, qZ.call⟩, va_recv hKc hPc (ci := 9) (q0 := 0) rfl rfl, fun U hU hW => ⟨rfl, by rw [hU], by rw [hU]; exact hPc, va_K.moved hW.alike hKc, hDc.weaken (fun _ _ _ _ => trivial), by rw [hU]; exact hZc.warm hW⟩⟩ rfl rfl hl.1 rfl (lv_room (Nat.le_of_ble_eq_true rfl)) dL_at_7 ⟨Nat.le_of_ble_eq_true rfl, Nat.le_of_ble_eq_true rfl⟩) hS (fun q _ h => hFc q h) hFc (fun q _ h => hFc q h) (fun E ce q9 u t H1 locs ht hvm hw hB hz1 hk1 hS hce hcv hcl => ?_) (fun r_1 u t H1 locs ht hvm hw hB hz1 hk1 hS => ?_)
  · obtain rfl := hB
    obtain ⟨hP, hD⟩ := va_join (D := (dC, dI)) (cl := vwCl) (wr := [(qo, .inl (cL, 1, .inr (.inl (fun _ => 0))))]) (w1 := []) hP hD [0] [1] rfl rfl (by decide) (by decide) hk1 hFc (fun k q h => by simp at h) ⟨fun i j p q h => by simp at h, fun k q h => by simp at h⟩
    refine vx_catch hown [] ⟨0, 12, 15, 21⟩ (tableOf [(0, 12, 15, 21), (0, 12, 19, 13)]).tail ((vx_table (x := yL_at) B (hts (.codeWith yL_at cL_at 6 (some .int) [(0, 12, 15, 21), (0, 12, 19, 13)]) (by decide +kernel))).trans rfl) (fun z h => by simp at h) (by decide) (by decide) (hts (.classLink RL 21 "java/lang/IndexOutOfBoundsException") (by decide +kernel)) (zz_cast (hts (.instantiable "java/lang/IndexOutOfBoundsException" 6) (by decide +kernel))) hce hcv hcl ?_
    generalize H1 = H at hP hS ⊢
    have hP : va_P (dC, dI) vwCl [(qo, .inl (cL, 1, .inr (.inl (fun _ => 0))))] H := hP
    have hD : va_D A [(qo, .inl (cL, 1, .inr (.inl (fun _ => 0))))] := hD
    refine W.widen (k := 1) (n := 6) (Nat.le_of_ble_eq_true rfl) (Nat.le_of_ble_eq_true rfl) ?_
    refine lv_astore (lv' := [(5, .ref q9), (0, .ref h0), (1, .int p0), (2, .int p1), (3, .int p2), (4, .ref qo)]) hx hb dL_at_15 hl (by decide) rfl (fun ls hl => ?_)
    refine lv_iconst (v := 1) hx hb dL_at_17 (by decide) ?_
    have hP9 := hP.sub (ws' := []) [] rfl
    have hD9 := hD.sub (ws' := []) [] (by decide) rfl
    have hK9 := hK.sub (tys' := []) [] rfl
    refine W.widen (k := 1) (n := 6) (Nat.le_of_ble_eq_true rfl) (Nat.le_of_ble_eq_true rfl) ?_
    exact W.iret (v := 1) hx hb hr (fun t ht hW => ⟨⟨1, (), rfl, rfl, ⟨by rw [ht]; exact hP9, va_K.moved hW.alike hK9, hD9⟩⟩, hS.F ht⟩) hS.2.2 dL_at_18
  exact hB.elim

def zs_c_L_symbol : List Cond := .codeWith yL_symbol cL_symbol 6 (some .int) [(0, 12, 15, 21), (0, 12, 19, 13)] :: (([.code yX7_symbol cX7_symbol 5 (some .int), .code yX7_find cX7_find 3 (some (.object "Haltingale$Machine")), .classLink RX7 301 "java/lang/IndexOutOfBoundsException", .initialized "java/lang/IndexOutOfBoundsException", .fieldLink RX7 148 "Haltingale" "machineCount" "I", .methodLink RX7 67 yX7_find, .instanceMethod yX7_find, .initialized RX7, .selects RX7 yX7_find yX7_find, .methodLink RL 55 yX7_symbol, .instanceMethod yX7_symbol, .selects RX7 yX7_symbol yX7_symbol, .classLink RL 21 "java/lang/IndexOutOfBoundsException"] : List Cond) ++ (vx_atS RX7 305 "java/lang/IndexOutOfBoundsException" ["java/lang/RuntimeException", "java/lang/Exception"]).filter goodWord ++ wsX70)
set_option maxHeartbeats 4000000 in
set_option maxRecDepth 100000 in
/-- the law's symbol, refused -/
theorem c_L_symbol (l : Launch) (hnt : l.stackTraces = false) (dC : Nat → ClassId) (dI : Nat → Nat → Nat) (a0 : Nat) (h0 : Nat) (qm : Nat) (qt : Nat) (qw : Nat) (qc : Nat) (qb : Nat) (qg : Nat) (qo : Nat) (cL : ClassId) (p0 : Int32) (p1 : Int32) (p2 : Int32) (sz : Nat)  : Met l yL_symbol zs_c_L_symbol ({ frames := 8, cells := 1, slots := 6, locals := 128 }) (va_Pc [.ref h0, .int p0, .int p1, .int p2, .ref qo] (fun U => U.heap.size = sz ∧ va_P (dC, dI) vwCl [(h0, .inr (9, [.ref qm, .ref qt, .ref qw, .ref qc, .ref qb, .ref qg, .int 0, .int 0, .int 0, .int 0, .int 0])), (qo, .inl (cL, 1, .inr (.inl (fun _ => 0))))] U.heap ∧ va_K (dC, dI) vwCl [(cL, .long)] U ∧ va_D (fun _ => True) [(h0, .inr (9, [.ref qm, .ref qt, .ref qw, .ref qc, .ref qb, .ref qg, .int 0, .int 0, .int 0, .int 0, .int 0])), (qo, .inl (cL, 1, .inr (.inl (fun _ => 0))))] ∧ zB a0 (va_A [(h0, .inr (9, [.ref qm, .ref qt, .ref qw, .ref qc, .ref qb, .ref qg, .int 0, .int 0, .int 0, .int 0, .int 0])), (qo, .inl (cL, 1, .inr (.inl (fun _ => 0))))] sz) U U.heap)) (va_Qi (fun (r : Int32) (_ : Unit) => r = 1) (fun _ t => va_P (dC, dI) vwCl [] t.heap ∧ va_K (dC, dI) vwCl [] t ∧ va_D (va_A [(h0, .inr (9, [.ref qm, .ref qt, .ref qw, .ref qc, .ref qb, .ref qg, .int 0, .int 0, .int 0, .int 0, .int 0])), (qo, .inl (cL, 1, .inr (.inl (fun _ => 0))))] sz) []) (va_A [(h0, .inr (9, [.ref qm, .ref qt, .ref qw, .ref qc, .ref qb, .ref qg, .int 0, .int 0, .int 0, .int 0, .int 0])), (qo, .inl (cL, 1, .inr (.inl (fun _ => 0))))] sz)) 1 6 (va_A [(h0, .inr (9, [.ref qm, .ref qt, .ref qw, .ref qc, .ref qb, .ref qg, .int 0, .int 0, .int 0, .int 0, .int 0])), (qo, .inl (cL, 1, .inr (.inl (fun _ => 0))))] sz) := by
  refine va_MetW (cc := cL_symbol) (maxL := 6) (ret := (some .int)) (hh := [(0, 12, 15, 21), (0, 12, 19, 13)]) (by decide) rfl ?_
  intro p e s m args below meth c s₁ B hml hv
  obtain ⟨rfl, hsz, hP, hK, hD0, hZ⟩ := hv
  have hx := B.exec
  have hb := B.bytes
  have hr := B.returns
  have hts := atoms_spec (ws := zs_c_L_symbol) B.pre
  have hown : s.vm.findClass RL = some m.cls := findClass_of_methodNamed B.named
  have hlocks := B.notSynchronized
  subst hsz
  have hD := hD0.self (sz := s.heap.size)
  generalize hAe : va_A [(h0, .inr (9, [.ref qm, .ref qt, .ref qw, .ref qc, .ref qb, .ref qg, .int 0, .int 0, .int 0, .int 0, .int 0])), (qo, .inl (cL, 1, .inr (.inl (fun _ => 0))))] s.heap.size = A at hD hZ ⊢
  have hA : ∀ q : Nat, s.heap.size ≤ q → A q := fun q h => by rw [← hAe]; exact Or.inr h
  have hS : va_S A s.heap s.heap [] := va_S.rf
  have hl := lv_entry ([.ref h0, .int p0, .int p1, .int p2, .ref qo]) (n := 6) (Nat.le_of_ble_eq_true rfl)
  rw [lg_entry_eq]
  generalize (lg_sl ([.ref h0, .int p0, .int p1, .int p2, .ref qo]) ++ List.replicate (6 - (lg_sl ([.ref h0, .int p0, .int p1, .int p2, .ref qo])).length) Slot.unset).toArray = ls at hl ⊢
  have hl : lv_has ls 6 [(0, .ref h0), (1, .int p0), (2, .int p1), (3, .int p2), (4, .ref qo)] := hl
  refine lv_aload hx hb dL_symbol_0 (lv_at hl 4 rfl) ?_
  refine lv_iconst (v := 0) hx hb dL_symbol_2 (by decide) ?_
  refine lv_aload_n hx hb dL_symbol_3 rfl (lv_at hl 0 rfl) ?_
  refine lv_iload_n hx hb dL_symbol_4 rfl (lv_at hl 1 rfl) ?_
  refine lv_iload_n hx hb dL_symbol_5 rfl (lv_at hl 2 rfl) ?_
  refine lv_iload_n hx hb dL_symbol_6 rfl (lv_at hl 3 rfl) ?_
  have hPc := hP.sub (ws' := [(h0, .inr (9, [.ref qm, .ref qt, .ref qw, .ref qc, .ref qb, .ref qg, .int 0, .int 0, .int 0, .int 0, .int 0]))]) [0] rfl
  have hDc := hD.sub (ws' := [(h0, .inr (9, [.ref qm, .ref qt, .ref qw, .ref qc, .ref qb, .ref qg, .int 0, .int 0, .int 0, .int 0, .int 0]))]) [0] (by decide) rfl
  have hKc := hK.sub (tys' := []) [] rfl
  have hFc := va_free (wc := [(h0, .inr (9, [.ref qm, .ref qt, .ref qw, .ref qc, .ref qb, .ref qg, .int 0, .int 0, .int 0, .int 0, .int 0]))]) hD hS hA [0] rfl
  have hZc := ((hZ.kept hS.2.1).narrow hFc)
  refine vx_calli (vx_runV (As := [.int p0, .int p1, .int p2]) (rest := [.int 0, .ref qo]) ⟨hx, hb, hml, hown, hts⟩ (c_X7_symbol l hnt dC dI a0 h0 qm qt qw qc qb qg p0 p1 p2 s.heap.size ) (cwV 3 hts (goodIn_of _ (by decide +kernel)) rfl rfl rfl (by decide +kernel) ⟨Nat.le_of_ble_eq_true rfl, Nat.le_of_ble_eq_true rfl⟩) ⟨fun a U g mk q => by obtain ⟨q0, q1, qP, qK, qD, qZ⟩ := q; exact ⟨q0, q1, qP, va_K.moved (u := U) (U := U.calling g mk a) (Vm.Alike.refl U.vm) qK, qD, qZ.call⟩, va_recv hKc hPc (ci := 9) (q0 := 0) rfl rfl, fun U hU hW => ⟨rfl, by rw [hU], by rw [hU]; exact hPc, va_K.moved hW.alike hKc, hDc.weaken (fun _ _ _ _ => trivial), by rw [hU]; exact hZc.warm hW⟩⟩ rfl rfl hl.1 rfl (lv_room (Nat.le_of_ble_eq_true rfl)) dL_symbol_7 ⟨Nat.le_of_ble_eq_true rfl, Nat.le_of_ble_eq_true rfl⟩) hS (fun q _ h => hFc q h) hFc (fun q _ h => hFc q h) (fun E ce q9 u t H1 locs ht hvm hw hB hz1 hk1 hS hce hcv hcl => ?_) (fun r_1 u t H1 locs ht hvm hw hB hz1 hk1 hS => ?_)
  · obtain rfl := hB
    obtain ⟨hP, hD⟩ := va_join (D := (dC, dI)) (cl := vwCl) (wr := [(qo, .inl (cL, 1, .inr (.inl (fun _ => 0))))]) (w1 := []) hP hD [0] [1] rfl rfl (by decide) (by decide) hk1 hFc (fun k q h => by simp at h) ⟨fun i j p q h => by simp at h, fun k q h => by simp at h⟩
    refine vx_catch hown [] ⟨0, 12, 15, 21⟩ (tableOf [(0, 12, 15, 21), (0, 12, 19, 13)]).tail ((vx_table (x := yL_symbol) B (hts (.codeWith yL_symbol cL_symbol 6 (some .int) [(0, 12, 15, 21), (0, 12, 19, 13)]) (by decide +kernel))).trans rfl) (fun z h => by simp at h) (by decide) (by decide) (hts (.classLink RL 21 "java/lang/IndexOutOfBoundsException") (by decide +kernel)) (zz_cast (hts (.instantiable "java/lang/IndexOutOfBoundsException" 6) (by decide +kernel))) hce hcv hcl ?_
    generalize H1 = H at hP hS ⊢
    have hP : va_P (dC, dI) vwCl [(qo, .inl (cL, 1, .inr (.inl (fun _ => 0))))] H := hP
    have hD : va_D A [(qo, .inl (cL, 1, .inr (.inl (fun _ => 0))))] := hD
    refine W.widen (k := 1) (n := 6) (Nat.le_of_ble_eq_true rfl) (Nat.le_of_ble_eq_true rfl) ?_
    refine lv_astore (lv' := [(5, .ref q9), (0, .ref h0), (1, .int p0), (2, .int p1), (3, .int p2), (4, .ref qo)]) hx hb dL_symbol_15 hl (by decide) rfl (fun ls hl => ?_)
    refine lv_iconst (v := 1) hx hb dL_symbol_17 (by decide) ?_
    have hP9 := hP.sub (ws' := []) [] rfl
    have hD9 := hD.sub (ws' := []) [] (by decide) rfl
    have hK9 := hK.sub (tys' := []) [] rfl
    refine W.widen (k := 1) (n := 6) (Nat.le_of_ble_eq_true rfl) (Nat.le_of_ble_eq_true rfl) ?_
    exact W.iret (v := 1) hx hb hr (fun t ht hW => ⟨⟨1, (), rfl, rfl, ⟨by rw [ht]; exact hP9, va_K.moved hW.alike hK9, hD9⟩⟩, hS.F ht⟩) hS.2.2 dL_symbol_18
  exact hB.elim

def zs_c_L_lean : List Cond := .codeWith yL_lean cL_lean 5 (some .int) [(0, 9, 12, 21), (0, 9, 16, 13)] :: (([.code yX7_lean cX7_lean 4 (some .double), .code yX7_find cX7_find 3 (some (.object "Haltingale$Machine")), .classLink RX7 301 "java/lang/IndexOutOfBoundsException", .initialized "java/lang/IndexOutOfBoundsException", .fieldLink RX7 148 "Haltingale" "machineCount" "I", .methodLink RX7 67 yX7_find, .instanceMethod yX7_find, .initialized RX7, .selects RX7 yX7_find yX7_find, .methodLink RL 58 yX7_lean, .instanceMethod yX7_lean, .selects RX7 yX7_lean yX7_lean, .classLink RL 21 "java/lang/IndexOutOfBoundsException"] : List Cond) ++ (vx_atS RX7 305 "java/lang/IndexOutOfBoundsException" ["java/lang/RuntimeException", "java/lang/Exception"]).filter goodWord ++ wsX70)
set_option maxHeartbeats 4000000 in
set_option maxRecDepth 100000 in
/-- the law's lean, refused -/
theorem c_L_lean (l : Launch) (hnt : l.stackTraces = false) (dC : Nat → ClassId) (dI : Nat → Nat → Nat) (a0 : Nat) (h0 : Nat) (qm : Nat) (qt : Nat) (qw : Nat) (qc : Nat) (qb : Nat) (qg : Nat) (qo : Nat) (cD : ClassId) (p0 : Int32) (p1 : Int32) (sz : Nat)  : Met l yL_lean zs_c_L_lean ({ frames := 8, cells := 1, slots := 6, locals := 127 }) (va_Pc [.ref h0, .int p0, .int p1, .ref qo] (fun U => U.heap.size = sz ∧ va_P (dC, dI) vwCl [(h0, .inr (9, [.ref qm, .ref qt, .ref qw, .ref qc, .ref qb, .ref qg, .int 0, .int 0, .int 0, .int 0, .int 0])), (qo, .inl (cD, 1, .inr (.inr (.inr (.inl (fun _ => 0))))))] U.heap ∧ va_K (dC, dI) vwCl [(cD, .double)] U ∧ va_D (fun _ => True) [(h0, .inr (9, [.ref qm, .ref qt, .ref qw, .ref qc, .ref qb, .ref qg, .int 0, .int 0, .int 0, .int 0, .int 0])), (qo, .inl (cD, 1, .inr (.inr (.inr (.inl (fun _ => 0))))))] ∧ zB a0 (va_A [(h0, .inr (9, [.ref qm, .ref qt, .ref qw, .ref qc, .ref qb, .ref qg, .int 0, .int 0, .int 0, .int 0, .int 0])), (qo, .inl (cD, 1, .inr (.inr (.inr (.inl (fun _ => 0))))))] sz) U U.heap)) (va_Qi (fun (r : Int32) (_ : Unit) => r = 1) (fun _ t => va_P (dC, dI) vwCl [] t.heap ∧ va_K (dC, dI) vwCl [] t ∧ va_D (va_A [(h0, .inr (9, [.ref qm, .ref qt, .ref qw, .ref qc, .ref qb, .ref qg, .int 0, .int 0, .int 0, .int 0, .int 0])), (qo, .inl (cD, 1, .inr (.inr (.inr (.inl (fun _ => 0))))))] sz) []) (va_A [(h0, .inr (9, [.ref qm, .ref qt, .ref qw, .ref qc, .ref qb, .ref qg, .int 0, .int 0, .int 0, .int 0, .int 0])), (qo, .inl (cD, 1, .inr (.inr (.inr (.inl (fun _ => 0))))))] sz)) 1 6 (va_A [(h0, .inr (9, [.ref qm, .ref qt, .ref qw, .ref qc, .ref qb, .ref qg, .int 0, .int 0, .int 0, .int 0, .int 0])), (qo, .inl (cD, 1, .inr (.inr (.inr (.inl (fun _ => 0))))))] sz) := by
  refine va_MetW (cc := cL_lean) (maxL := 5) (ret := (some .int)) (hh := [(0, 9, 12, 21), (0, 9, 16, 13)]) (by decide) rfl ?_
  intro p e s m args below meth c s₁ B hml hv
  obtain ⟨rfl, hsz, hP, hK, hD0, hZ⟩ := hv
  have hx := B.exec
  have hb := B.bytes
  have hr := B.returns
  have hts := atoms_spec (ws := zs_c_L_lean) B.pre
  have hown : s.vm.findClass RL = some m.cls := findClass_of_methodNamed B.named
  have hlocks := B.notSynchronized
  subst hsz
  have hD := hD0.self (sz := s.heap.size)
  generalize hAe : va_A [(h0, .inr (9, [.ref qm, .ref qt, .ref qw, .ref qc, .ref qb, .ref qg, .int 0, .int 0, .int 0, .int 0, .int 0])), (qo, .inl (cD, 1, .inr (.inr (.inr (.inl (fun _ => 0))))))] s.heap.size = A at hD hZ ⊢
  have hA : ∀ q : Nat, s.heap.size ≤ q → A q := fun q h => by rw [← hAe]; exact Or.inr h
  have hS : va_S A s.heap s.heap [] := va_S.rf
  have hl := lv_entry ([.ref h0, .int p0, .int p1, .ref qo]) (n := 5) (Nat.le_of_ble_eq_true rfl)
  rw [lg_entry_eq]
  generalize (lg_sl ([.ref h0, .int p0, .int p1, .ref qo]) ++ List.replicate (5 - (lg_sl ([.ref h0, .int p0, .int p1, .ref qo])).length) Slot.unset).toArray = ls at hl ⊢
  have hl : lv_has ls 5 [(0, .ref h0), (1, .int p0), (2, .int p1), (3, .ref qo)] := hl
  refine lv_aload_n hx hb dL_lean_0 rfl (lv_at hl 3 rfl) ?_
  refine lv_iconst (v := 0) hx hb dL_lean_1 (by decide) ?_
  refine lv_aload_n hx hb dL_lean_2 rfl (lv_at hl 0 rfl) ?_
  refine lv_iload_n hx hb dL_lean_3 rfl (lv_at hl 1 rfl) ?_
  refine lv_iload_n hx hb dL_lean_4 rfl (lv_at hl 2 rfl) ?_
  have hPc := hP.sub (ws' := [(h0, .inr (9, [.ref qm, .ref qt, .ref qw, .ref qc, .ref qb, .ref qg, .int 0, .int 0, .int 0, .int 0, .int 0]))]) [0] rfl
  have hDc := hD.sub (ws' := [(h0, .inr (9, [.ref qm, .ref qt, .ref qw, .ref qc, .ref qb, .ref qg, .int 0, .int 0, .int 0, .int 0, .int 0]))]) [0] (by decide) rfl
  have hKc := hK.sub (tys' := []) [] rfl
  have hFc := va_free (wc := [(h0, .inr (9, [.ref qm, .ref qt, .ref qw, .ref qc, .ref qb, .ref qg, .int 0, .int 0, .int 0, .int 0, .int 0]))]) hD hS hA [0] rfl
  have hZc := ((hZ.kept hS.2.1).narrow hFc)
  refine vx_calld (vx_runV (As := [.int p0, .int p1]) (rest := [.int 0, .ref qo]) ⟨hx, hb, hml, hown, hts⟩ (c_X7_lean l hnt dC dI a0 h0 qm qt qw qc qb qg p0 p1 s.heap.size ) (cwV 2 hts (goodIn_of _ (by decide +kernel)) rfl rfl rfl (by decide +kernel) ⟨Nat.le_of_ble_eq_true rfl, Nat.le_of_ble_eq_true rfl⟩) ⟨fun a U g mk q => by obtain ⟨q0, q1, qP, qK, qD, qZ⟩ := q; exact ⟨q0, q1, qP, va_K.moved (u := U) (U := U.calling g mk a) (Vm.Alike.refl U.vm) qK, qD, qZ.call⟩, va_recv hKc hPc (ci := 9) (q0 := 0) rfl rfl, fun U hU hW => ⟨rfl, by rw [hU], by rw [hU]; exact hPc, va_K.moved hW.alike hKc, hDc.weaken (fun _ _ _ _ => trivial), by rw [hU]; exact hZc.warm hW⟩⟩ rfl rfl hl.1 rfl (lv_room (Nat.le_of_ble_eq_true rfl)) dL_lean_5 ⟨Nat.le_of_ble_eq_true rfl, Nat.le_of_ble_eq_true rfl⟩) hS (fun q _ h => hFc q h) hFc (fun q _ h => hFc q h) (fun E ce q9 u t H1 locs ht hvm hw hB hz1 hk1 hS hce hcv hcl => ?_) (fun r_1 u t H1 locs ht hvm hw hB hz1 hk1 hS => ?_)
  · obtain rfl := hB
    obtain ⟨hP, hD⟩ := va_join (D := (dC, dI)) (cl := vwCl) (wr := [(qo, .inl (cD, 1, .inr (.inr (.inr (.inl (fun _ => 0))))))]) (w1 := []) hP hD [0] [1] rfl rfl (by decide) (by decide) hk1 hFc (fun k q h => by simp at h) ⟨fun i j p q h => by simp at h, fun k q h => by simp at h⟩
    refine vx_catch hown [] ⟨0, 9, 12, 21⟩ (tableOf [(0, 9, 12, 21), (0, 9, 16, 13)]).tail ((vx_table (x := yL_lean) B (hts (.codeWith yL_lean cL_lean 5 (some .int) [(0, 9, 12, 21), (0, 9, 16, 13)]) (by decide +kernel))).trans rfl) (fun z h => by simp at h) (by decide) (by decide) (hts (.classLink RL 21 "java/lang/IndexOutOfBoundsException") (by decide +kernel)) (zz_cast (hts (.instantiable "java/lang/IndexOutOfBoundsException" 6) (by decide +kernel))) hce hcv hcl ?_
    generalize H1 = H at hP hS ⊢
    have hP : va_P (dC, dI) vwCl [(qo, .inl (cD, 1, .inr (.inr (.inr (.inl (fun _ => 0))))))] H := hP
    have hD : va_D A [(qo, .inl (cD, 1, .inr (.inr (.inr (.inl (fun _ => 0))))))] := hD
    refine W.widen (k := 1) (n := 6) (Nat.le_of_ble_eq_true rfl) (Nat.le_of_ble_eq_true rfl) ?_
    refine lv_astore (lv' := [(4, .ref q9), (0, .ref h0), (1, .int p0), (2, .int p1), (3, .ref qo)]) hx hb dL_lean_12 hl (by decide) rfl (fun ls hl => ?_)
    refine lv_iconst (v := 1) hx hb dL_lean_14 (by decide) ?_
    have hP9 := hP.sub (ws' := []) [] rfl
    have hD9 := hD.sub (ws' := []) [] (by decide) rfl
    have hK9 := hK.sub (tys' := []) [] rfl
    refine W.widen (k := 1) (n := 6) (Nat.le_of_ble_eq_true rfl) (Nat.le_of_ble_eq_true rfl) ?_
    exact W.iret (v := 1) hx hb hr (fun t ht hW => ⟨⟨1, (), rfl, rfl, ⟨by rw [ht]; exact hP9, va_K.moved hW.alike hK9, hD9⟩⟩, hS.F ht⟩) hS.2.2 dL_lean_15
  exact hB.elim

def zs_c_L_meets : List Cond := .codeWith yL_meets cL_meets 7 (some .int) [(0, 14, 17, 21), (0, 14, 21, 13)] :: (([.code yX7_meets cX7_meets 8 (some .int), .code yX7_find cX7_find 3 (some (.object "Haltingale$Machine")), .classLink RX7 301 "java/lang/IndexOutOfBoundsException", .initialized "java/lang/IndexOutOfBoundsException", .fieldLink RX7 148 "Haltingale" "machineCount" "I", .methodLink RX7 67 yX7_find, .instanceMethod yX7_find, .initialized RX7, .selects RX7 yX7_find yX7_find, .methodLink RL 62 yX7_meets, .instanceMethod yX7_meets, .selects RX7 yX7_meets yX7_meets, .classLink RL 21 "java/lang/IndexOutOfBoundsException"] : List Cond) ++ (vx_atS RX7 305 "java/lang/IndexOutOfBoundsException" ["java/lang/RuntimeException", "java/lang/Exception"]).filter goodWord ++ wsX70)
set_option maxHeartbeats 4000000 in
set_option maxRecDepth 100000 in
/-- the law's meets, refused -/
theorem c_L_meets (l : Launch) (hnt : l.stackTraces = false) (dC : Nat → ClassId) (dI : Nat → Nat → Nat) (a0 : Nat) (h0 : Nat) (qm : Nat) (qt : Nat) (qw : Nat) (qc : Nat) (qb : Nat) (qg : Nat) (qo : Nat) (cL : ClassId) (p0 : Int32) (p1 : Int32) (p2 : Int32) (p3 : Int32) (sz : Nat)  : Met l yL_meets zs_c_L_meets ({ frames := 8, cells := 1, slots := 6, locals := 131 }) (va_Pc [.ref h0, .int p0, .int p1, .int p2, .int p3, .ref qo] (fun U => U.heap.size = sz ∧ va_P (dC, dI) vwCl [(h0, .inr (9, [.ref qm, .ref qt, .ref qw, .ref qc, .ref qb, .ref qg, .int 0, .int 0, .int 0, .int 0, .int 0])), (qo, .inl (cL, 1, .inr (.inl (fun _ => 0))))] U.heap ∧ va_K (dC, dI) vwCl [(cL, .long)] U ∧ va_D (fun _ => True) [(h0, .inr (9, [.ref qm, .ref qt, .ref qw, .ref qc, .ref qb, .ref qg, .int 0, .int 0, .int 0, .int 0, .int 0])), (qo, .inl (cL, 1, .inr (.inl (fun _ => 0))))] ∧ zB a0 (va_A [(h0, .inr (9, [.ref qm, .ref qt, .ref qw, .ref qc, .ref qb, .ref qg, .int 0, .int 0, .int 0, .int 0, .int 0])), (qo, .inl (cL, 1, .inr (.inl (fun _ => 0))))] sz) U U.heap)) (va_Qi (fun (r : Int32) (_ : Unit) => r = 1) (fun _ t => va_P (dC, dI) vwCl [] t.heap ∧ va_K (dC, dI) vwCl [] t ∧ va_D (va_A [(h0, .inr (9, [.ref qm, .ref qt, .ref qw, .ref qc, .ref qb, .ref qg, .int 0, .int 0, .int 0, .int 0, .int 0])), (qo, .inl (cL, 1, .inr (.inl (fun _ => 0))))] sz) []) (va_A [(h0, .inr (9, [.ref qm, .ref qt, .ref qw, .ref qc, .ref qb, .ref qg, .int 0, .int 0, .int 0, .int 0, .int 0])), (qo, .inl (cL, 1, .inr (.inl (fun _ => 0))))] sz)) 1 6 (va_A [(h0, .inr (9, [.ref qm, .ref qt, .ref qw, .ref qc, .ref qb, .ref qg, .int 0, .int 0, .int 0, .int 0, .int 0])), (qo, .inl (cL, 1, .inr (.inl (fun _ => 0))))] sz) := by
  refine va_MetW (cc := cL_meets) (maxL := 7) (ret := (some .int)) (hh := [(0, 14, 17, 21), (0, 14, 21, 13)]) (by decide) rfl ?_
  intro p e s m args below meth c s₁ B hml hv
  obtain ⟨rfl, hsz, hP, hK, hD0, hZ⟩ := hv
  have hx := B.exec
  have hb := B.bytes
  have hr := B.returns
  have hts := atoms_spec (ws := zs_c_L_meets) B.pre
  have hown : s.vm.findClass RL = some m.cls := findClass_of_methodNamed B.named
  have hlocks := B.notSynchronized
  subst hsz
  have hD := hD0.self (sz := s.heap.size)
  generalize hAe : va_A [(h0, .inr (9, [.ref qm, .ref qt, .ref qw, .ref qc, .ref qb, .ref qg, .int 0, .int 0, .int 0, .int 0, .int 0])), (qo, .inl (cL, 1, .inr (.inl (fun _ => 0))))] s.heap.size = A at hD hZ ⊢
  have hA : ∀ q : Nat, s.heap.size ≤ q → A q := fun q h => by rw [← hAe]; exact Or.inr h
  have hS : va_S A s.heap s.heap [] := va_S.rf
  have hl := lv_entry ([.ref h0, .int p0, .int p1, .int p2, .int p3, .ref qo]) (n := 7) (Nat.le_of_ble_eq_true rfl)
  rw [lg_entry_eq]
  generalize (lg_sl ([.ref h0, .int p0, .int p1, .int p2, .int p3, .ref qo]) ++ List.replicate (7 - (lg_sl ([.ref h0, .int p0, .int p1, .int p2, .int p3, .ref qo])).length) Slot.unset).toArray = ls at hl ⊢
  have hl : lv_has ls 7 [(0, .ref h0), (1, .int p0), (2, .int p1), (3, .int p2), (4, .int p3), (5, .ref qo)] := hl
  refine lv_aload hx hb dL_meets_0 (lv_at hl 5 rfl) ?_
  refine lv_iconst (v := 0) hx hb dL_meets_2 (by decide) ?_
  refine lv_aload_n hx hb dL_meets_3 rfl (lv_at hl 0 rfl) ?_
  refine lv_iload_n hx hb dL_meets_4 rfl (lv_at hl 1 rfl) ?_
  refine lv_iload_n hx hb dL_meets_5 rfl (lv_at hl 2 rfl) ?_
  refine lv_iload_n hx hb dL_meets_6 rfl (lv_at hl 3 rfl) ?_
  refine lv_iload hx hb dL_meets_7 (lv_at hl 4 rfl) ?_
  have hPc := hP.sub (ws' := [(h0, .inr (9, [.ref qm, .ref qt, .ref qw, .ref qc, .ref qb, .ref qg, .int 0, .int 0, .int 0, .int 0, .int 0]))]) [0] rfl
  have hDc := hD.sub (ws' := [(h0, .inr (9, [.ref qm, .ref qt, .ref qw, .ref qc, .ref qb, .ref qg, .int 0, .int 0, .int 0, .int 0, .int 0]))]) [0] (by decide) rfl
  have hKc := hK.sub (tys' := []) [] rfl
  have hFc := va_free (wc := [(h0, .inr (9, [.ref qm, .ref qt, .ref qw, .ref qc, .ref qb, .ref qg, .int 0, .int 0, .int 0, .int 0, .int 0]))]) hD hS hA [0] rfl
  have hZc := ((hZ.kept hS.2.1).narrow hFc)
  refine vx_calli (vx_runV (As := [.int p0, .int p1, .int p2, .int p3]) (rest := [.int 0, .ref qo]) ⟨hx, hb, hml, hown, hts⟩ (c_X7_meets l hnt dC dI a0 h0 qm qt qw qc qb qg p0 p1 p2 p3 s.heap.size ) (cwV 4 hts (goodIn_of _ (by decide +kernel)) rfl rfl rfl (by decide +kernel) ⟨Nat.le_of_ble_eq_true rfl, Nat.le_of_ble_eq_true rfl⟩) ⟨fun a U g mk q => by obtain ⟨q0, q1, qP, qK, qD, qZ⟩ := q; exact ⟨q0, q1, qP, va_K.moved (u := U) (U := U.calling g mk a) (Vm.Alike.refl U.vm) qK, qD, qZ.call⟩, va_recv hKc hPc (ci := 9) (q0 := 0) rfl rfl, fun U hU hW => ⟨rfl, by rw [hU], by rw [hU]; exact hPc, va_K.moved hW.alike hKc, hDc.weaken (fun _ _ _ _ => trivial), by rw [hU]; exact hZc.warm hW⟩⟩ rfl rfl hl.1 rfl (lv_room (Nat.le_of_ble_eq_true rfl)) dL_meets_9 ⟨Nat.le_of_ble_eq_true rfl, Nat.le_of_ble_eq_true rfl⟩) hS (fun q _ h => hFc q h) hFc (fun q _ h => hFc q h) (fun E ce q9 u t H1 locs ht hvm hw hB hz1 hk1 hS hce hcv hcl => ?_) (fun r_1 u t H1 locs ht hvm hw hB hz1 hk1 hS => ?_)
  · obtain rfl := hB
    obtain ⟨hP, hD⟩ := va_join (D := (dC, dI)) (cl := vwCl) (wr := [(qo, .inl (cL, 1, .inr (.inl (fun _ => 0))))]) (w1 := []) hP hD [0] [1] rfl rfl (by decide) (by decide) hk1 hFc (fun k q h => by simp at h) ⟨fun i j p q h => by simp at h, fun k q h => by simp at h⟩
    refine vx_catch hown [] ⟨0, 14, 17, 21⟩ (tableOf [(0, 14, 17, 21), (0, 14, 21, 13)]).tail ((vx_table (x := yL_meets) B (hts (.codeWith yL_meets cL_meets 7 (some .int) [(0, 14, 17, 21), (0, 14, 21, 13)]) (by decide +kernel))).trans rfl) (fun z h => by simp at h) (by decide) (by decide) (hts (.classLink RL 21 "java/lang/IndexOutOfBoundsException") (by decide +kernel)) (zz_cast (hts (.instantiable "java/lang/IndexOutOfBoundsException" 6) (by decide +kernel))) hce hcv hcl ?_
    generalize H1 = H at hP hS ⊢
    have hP : va_P (dC, dI) vwCl [(qo, .inl (cL, 1, .inr (.inl (fun _ => 0))))] H := hP
    have hD : va_D A [(qo, .inl (cL, 1, .inr (.inl (fun _ => 0))))] := hD
    refine W.widen (k := 1) (n := 6) (Nat.le_of_ble_eq_true rfl) (Nat.le_of_ble_eq_true rfl) ?_
    refine lv_astore (lv' := [(6, .ref q9), (0, .ref h0), (1, .int p0), (2, .int p1), (3, .int p2), (4, .int p3), (5, .ref qo)]) hx hb dL_meets_17 hl (by decide) rfl (fun ls hl => ?_)
    refine lv_iconst (v := 1) hx hb dL_meets_19 (by decide) ?_
    have hP9 := hP.sub (ws' := []) [] rfl
    have hD9 := hD.sub (ws' := []) [] (by decide) rfl
    have hK9 := hK.sub (tys' := []) [] rfl
    refine W.widen (k := 1) (n := 6) (Nat.le_of_ble_eq_true rfl) (Nat.le_of_ble_eq_true rfl) ?_
    exact W.iret (v := 1) hx hb hr (fun t ht hW => ⟨⟨1, (), rfl, rfl, ⟨by rw [ht]; exact hP9, va_K.moved hW.alike hK9, hD9⟩⟩, hS.F ht⟩) hS.2.2 dL_meets_20
  exact hB.elim

def zs_c_L_likeness : List Cond := .codeWith yL_likeness cL_likeness 5 (some .int) [(0, 10, 13, 21)] :: (([.code yX7_likeness cX7_likeness 5 (some .int), .code yX7_find cX7_find 3 (some (.object "Haltingale$Machine")), .classLink RX7 301 "java/lang/IndexOutOfBoundsException", .initialized "java/lang/IndexOutOfBoundsException", .fieldLink RX7 148 "Haltingale" "machineCount" "I", .methodLink RX7 67 yX7_find, .instanceMethod yX7_find, .initialized RX7, .selects RX7 yX7_find yX7_find, .methodLink RL 65 yX7_likeness, .instanceMethod yX7_likeness, .selects RX7 yX7_likeness yX7_likeness, .classLink RL 21 "java/lang/IndexOutOfBoundsException"] : List Cond) ++ (vx_atS RX7 305 "java/lang/IndexOutOfBoundsException" ["java/lang/RuntimeException", "java/lang/Exception"]).filter goodWord ++ wsX70)
set_option maxHeartbeats 4000000 in
set_option maxRecDepth 100000 in
/-- the law's likeness, refused -/
theorem c_L_likeness (l : Launch) (hnt : l.stackTraces = false) (dC : Nat → ClassId) (dI : Nat → Nat → Nat) (a0 : Nat) (h0 : Nat) (qm : Nat) (qt : Nat) (qw : Nat) (qc : Nat) (qb : Nat) (qg : Nat) (qo : Nat) (cL : ClassId) (p0 : Int32) (p1 : Int32) (sz : Nat)  : Met l yL_likeness zs_c_L_likeness ({ frames := 8, cells := 1, slots := 6, locals := 128 }) (va_Pc [.ref h0, .int p0, .int p1, .ref qo] (fun U => U.heap.size = sz ∧ va_P (dC, dI) vwCl [(h0, .inr (9, [.ref qm, .ref qt, .ref qw, .ref qc, .ref qb, .ref qg, .int 0, .int 0, .int 0, .int 0, .int 0])), (qo, .inl (cL, 1, .inr (.inl (fun _ => 0))))] U.heap ∧ va_K (dC, dI) vwCl [(cL, .long)] U ∧ va_D (fun _ => True) [(h0, .inr (9, [.ref qm, .ref qt, .ref qw, .ref qc, .ref qb, .ref qg, .int 0, .int 0, .int 0, .int 0, .int 0])), (qo, .inl (cL, 1, .inr (.inl (fun _ => 0))))] ∧ zB a0 (va_A [(h0, .inr (9, [.ref qm, .ref qt, .ref qw, .ref qc, .ref qb, .ref qg, .int 0, .int 0, .int 0, .int 0, .int 0])), (qo, .inl (cL, 1, .inr (.inl (fun _ => 0))))] sz) U U.heap)) (va_Qi (fun (r : Int32) (_ : Unit) => r = 1) (fun _ t => va_P (dC, dI) vwCl [] t.heap ∧ va_K (dC, dI) vwCl [] t ∧ va_D (va_A [(h0, .inr (9, [.ref qm, .ref qt, .ref qw, .ref qc, .ref qb, .ref qg, .int 0, .int 0, .int 0, .int 0, .int 0])), (qo, .inl (cL, 1, .inr (.inl (fun _ => 0))))] sz) []) (va_A [(h0, .inr (9, [.ref qm, .ref qt, .ref qw, .ref qc, .ref qb, .ref qg, .int 0, .int 0, .int 0, .int 0, .int 0])), (qo, .inl (cL, 1, .inr (.inl (fun _ => 0))))] sz)) 1 6 (va_A [(h0, .inr (9, [.ref qm, .ref qt, .ref qw, .ref qc, .ref qb, .ref qg, .int 0, .int 0, .int 0, .int 0, .int 0])), (qo, .inl (cL, 1, .inr (.inl (fun _ => 0))))] sz) := by
  refine va_MetW (cc := cL_likeness) (maxL := 5) (ret := (some .int)) (hh := [(0, 10, 13, 21)]) (by decide) rfl ?_
  intro p e s m args below meth c s₁ B hml hv
  obtain ⟨rfl, hsz, hP, hK, hD0, hZ⟩ := hv
  have hx := B.exec
  have hb := B.bytes
  have hr := B.returns
  have hts := atoms_spec (ws := zs_c_L_likeness) B.pre
  have hown : s.vm.findClass RL = some m.cls := findClass_of_methodNamed B.named
  have hlocks := B.notSynchronized
  subst hsz
  have hD := hD0.self (sz := s.heap.size)
  generalize hAe : va_A [(h0, .inr (9, [.ref qm, .ref qt, .ref qw, .ref qc, .ref qb, .ref qg, .int 0, .int 0, .int 0, .int 0, .int 0])), (qo, .inl (cL, 1, .inr (.inl (fun _ => 0))))] s.heap.size = A at hD hZ ⊢
  have hA : ∀ q : Nat, s.heap.size ≤ q → A q := fun q h => by rw [← hAe]; exact Or.inr h
  have hS : va_S A s.heap s.heap [] := va_S.rf
  have hl := lv_entry ([.ref h0, .int p0, .int p1, .ref qo]) (n := 5) (Nat.le_of_ble_eq_true rfl)
  rw [lg_entry_eq]
  generalize (lg_sl ([.ref h0, .int p0, .int p1, .ref qo]) ++ List.replicate (5 - (lg_sl ([.ref h0, .int p0, .int p1, .ref qo])).length) Slot.unset).toArray = ls at hl ⊢
  have hl : lv_has ls 5 [(0, .ref h0), (1, .int p0), (2, .int p1), (3, .ref qo)] := hl
  refine lv_aload_n hx hb dL_likeness_0 rfl (lv_at hl 3 rfl) ?_
  refine lv_iconst (v := 0) hx hb dL_likeness_1 (by decide) ?_
  refine lv_aload_n hx hb dL_likeness_2 rfl (lv_at hl 0 rfl) ?_
  refine lv_iload_n hx hb dL_likeness_3 rfl (lv_at hl 1 rfl) ?_
  refine lv_iload_n hx hb dL_likeness_4 rfl (lv_at hl 2 rfl) ?_
  have hPc := hP.sub (ws' := [(h0, .inr (9, [.ref qm, .ref qt, .ref qw, .ref qc, .ref qb, .ref qg, .int 0, .int 0, .int 0, .int 0, .int 0]))]) [0] rfl
  have hDc := hD.sub (ws' := [(h0, .inr (9, [.ref qm, .ref qt, .ref qw, .ref qc, .ref qb, .ref qg, .int 0, .int 0, .int 0, .int 0, .int 0]))]) [0] (by decide) rfl
  have hKc := hK.sub (tys' := []) [] rfl
  have hFc := va_free (wc := [(h0, .inr (9, [.ref qm, .ref qt, .ref qw, .ref qc, .ref qb, .ref qg, .int 0, .int 0, .int 0, .int 0, .int 0]))]) hD hS hA [0] rfl
  have hZc := ((hZ.kept hS.2.1).narrow hFc)
  refine vx_calli (vx_runV (As := [.int p0, .int p1]) (rest := [.int 0, .ref qo]) ⟨hx, hb, hml, hown, hts⟩ (c_X7_likeness l hnt dC dI a0 h0 qm qt qw qc qb qg p0 p1 s.heap.size ) (cwV 2 hts (goodIn_of _ (by decide +kernel)) rfl rfl rfl (by decide +kernel) ⟨Nat.le_of_ble_eq_true rfl, Nat.le_of_ble_eq_true rfl⟩) ⟨fun a U g mk q => by obtain ⟨q0, q1, qP, qK, qD, qZ⟩ := q; exact ⟨q0, q1, qP, va_K.moved (u := U) (U := U.calling g mk a) (Vm.Alike.refl U.vm) qK, qD, qZ.call⟩, va_recv hKc hPc (ci := 9) (q0 := 0) rfl rfl, fun U hU hW => ⟨rfl, by rw [hU], by rw [hU]; exact hPc, va_K.moved hW.alike hKc, hDc.weaken (fun _ _ _ _ => trivial), by rw [hU]; exact hZc.warm hW⟩⟩ rfl rfl hl.1 rfl (lv_room (Nat.le_of_ble_eq_true rfl)) dL_likeness_5 ⟨Nat.le_of_ble_eq_true rfl, Nat.le_of_ble_eq_true rfl⟩) hS (fun q _ h => hFc q h) hFc (fun q _ h => hFc q h) (fun E ce q9 u t H1 locs ht hvm hw hB hz1 hk1 hS hce hcv hcl => ?_) (fun r_1 u t H1 locs ht hvm hw hB hz1 hk1 hS => ?_)
  · obtain rfl := hB
    obtain ⟨hP, hD⟩ := va_join (D := (dC, dI)) (cl := vwCl) (wr := [(qo, .inl (cL, 1, .inr (.inl (fun _ => 0))))]) (w1 := []) hP hD [0] [1] rfl rfl (by decide) (by decide) hk1 hFc (fun k q h => by simp at h) ⟨fun i j p q h => by simp at h, fun k q h => by simp at h⟩
    refine vx_catch hown [] ⟨0, 10, 13, 21⟩ (tableOf [(0, 10, 13, 21)]).tail ((vx_table (x := yL_likeness) B (hts (.codeWith yL_likeness cL_likeness 5 (some .int) [(0, 10, 13, 21)]) (by decide +kernel))).trans rfl) (fun z h => by simp at h) (by decide) (by decide) (hts (.classLink RL 21 "java/lang/IndexOutOfBoundsException") (by decide +kernel)) (zz_cast (hts (.instantiable "java/lang/IndexOutOfBoundsException" 6) (by decide +kernel))) hce hcv hcl ?_
    generalize H1 = H at hP hS ⊢
    have hP : va_P (dC, dI) vwCl [(qo, .inl (cL, 1, .inr (.inl (fun _ => 0))))] H := hP
    have hD : va_D A [(qo, .inl (cL, 1, .inr (.inl (fun _ => 0))))] := hD
    refine W.widen (k := 1) (n := 6) (Nat.le_of_ble_eq_true rfl) (Nat.le_of_ble_eq_true rfl) ?_
    refine lv_astore (lv' := [(4, .ref q9), (0, .ref h0), (1, .int p0), (2, .int p1), (3, .ref qo)]) hx hb dL_likeness_13 hl (by decide) rfl (fun ls hl => ?_)
    refine lv_iconst (v := 1) hx hb dL_likeness_15 (by decide) ?_
    have hP9 := hP.sub (ws' := []) [] rfl
    have hD9 := hD.sub (ws' := []) [] (by decide) rfl
    have hK9 := hK.sub (tys' := []) [] rfl
    refine W.widen (k := 1) (n := 6) (Nat.le_of_ble_eq_true rfl) (Nat.le_of_ble_eq_true rfl) ?_
    exact W.iret (v := 1) hx hb hr (fun t ht hW => ⟨⟨1, (), rfl, rfl, ⟨by rw [ht]; exact hP9, va_K.moved hW.alike hK9, hD9⟩⟩, hS.F ht⟩) hS.2.2 dL_likeness_16
  exact hB.elim

def zs_c_L_cycleIn : List Cond := .codeWith yL_cycleIn cL_cycleIn 5 (some .int) [(0, 10, 13, 21), (0, 10, 17, 13)] :: (([.code yX7_cycleIn cX7_cycleIn 4 (some .int), .code yX7_find cX7_find 3 (some (.object "Haltingale$Machine")), .classLink RX7 301 "java/lang/IndexOutOfBoundsException", .initialized "java/lang/IndexOutOfBoundsException", .fieldLink RX7 148 "Haltingale" "machineCount" "I", .methodLink RX7 67 yX7_find, .instanceMethod yX7_find, .initialized RX7, .selects RX7 yX7_find yX7_find, .methodLink RL 77 yX7_cycleIn, .instanceMethod yX7_cycleIn, .selects RX7 yX7_cycleIn yX7_cycleIn, .classLink RL 21 "java/lang/IndexOutOfBoundsException"] : List Cond) ++ (vx_atS RX7 305 "java/lang/IndexOutOfBoundsException" ["java/lang/RuntimeException", "java/lang/Exception"]).filter goodWord ++ wsX70)
set_option maxHeartbeats 4000000 in
set_option maxRecDepth 100000 in
/-- the law's cycleIn, refused -/
theorem c_L_cycleIn (l : Launch) (hnt : l.stackTraces = false) (dC : Nat → ClassId) (dI : Nat → Nat → Nat) (a0 : Nat) (h0 : Nat) (qm : Nat) (qt : Nat) (qw : Nat) (qc : Nat) (qb : Nat) (qg : Nat) (qo : Nat) (cL : ClassId) (p0 : Int32) (p1 : Int32) (sz : Nat)  : Met l yL_cycleIn zs_c_L_cycleIn ({ frames := 8, cells := 1, slots := 6, locals := 127 }) (va_Pc [.ref h0, .int p0, .int p1, .ref qo] (fun U => U.heap.size = sz ∧ va_P (dC, dI) vwCl [(h0, .inr (9, [.ref qm, .ref qt, .ref qw, .ref qc, .ref qb, .ref qg, .int 0, .int 0, .int 0, .int 0, .int 0])), (qo, .inl (cL, 1, .inr (.inl (fun _ => 0))))] U.heap ∧ va_K (dC, dI) vwCl [(cL, .long)] U ∧ va_D (fun _ => True) [(h0, .inr (9, [.ref qm, .ref qt, .ref qw, .ref qc, .ref qb, .ref qg, .int 0, .int 0, .int 0, .int 0, .int 0])), (qo, .inl (cL, 1, .inr (.inl (fun _ => 0))))] ∧ zB a0 (va_A [(h0, .inr (9, [.ref qm, .ref qt, .ref qw, .ref qc, .ref qb, .ref qg, .int 0, .int 0, .int 0, .int 0, .int 0])), (qo, .inl (cL, 1, .inr (.inl (fun _ => 0))))] sz) U U.heap)) (va_Qi (fun (r : Int32) (_ : Unit) => r = 1) (fun _ t => va_P (dC, dI) vwCl [] t.heap ∧ va_K (dC, dI) vwCl [] t ∧ va_D (va_A [(h0, .inr (9, [.ref qm, .ref qt, .ref qw, .ref qc, .ref qb, .ref qg, .int 0, .int 0, .int 0, .int 0, .int 0])), (qo, .inl (cL, 1, .inr (.inl (fun _ => 0))))] sz) []) (va_A [(h0, .inr (9, [.ref qm, .ref qt, .ref qw, .ref qc, .ref qb, .ref qg, .int 0, .int 0, .int 0, .int 0, .int 0])), (qo, .inl (cL, 1, .inr (.inl (fun _ => 0))))] sz)) 1 6 (va_A [(h0, .inr (9, [.ref qm, .ref qt, .ref qw, .ref qc, .ref qb, .ref qg, .int 0, .int 0, .int 0, .int 0, .int 0])), (qo, .inl (cL, 1, .inr (.inl (fun _ => 0))))] sz) := by
  refine va_MetW (cc := cL_cycleIn) (maxL := 5) (ret := (some .int)) (hh := [(0, 10, 13, 21), (0, 10, 17, 13)]) (by decide) rfl ?_
  intro p e s m args below meth c s₁ B hml hv
  obtain ⟨rfl, hsz, hP, hK, hD0, hZ⟩ := hv
  have hx := B.exec
  have hb := B.bytes
  have hr := B.returns
  have hts := atoms_spec (ws := zs_c_L_cycleIn) B.pre
  have hown : s.vm.findClass RL = some m.cls := findClass_of_methodNamed B.named
  have hlocks := B.notSynchronized
  subst hsz
  have hD := hD0.self (sz := s.heap.size)
  generalize hAe : va_A [(h0, .inr (9, [.ref qm, .ref qt, .ref qw, .ref qc, .ref qb, .ref qg, .int 0, .int 0, .int 0, .int 0, .int 0])), (qo, .inl (cL, 1, .inr (.inl (fun _ => 0))))] s.heap.size = A at hD hZ ⊢
  have hA : ∀ q : Nat, s.heap.size ≤ q → A q := fun q h => by rw [← hAe]; exact Or.inr h
  have hS : va_S A s.heap s.heap [] := va_S.rf
  have hl := lv_entry ([.ref h0, .int p0, .int p1, .ref qo]) (n := 5) (Nat.le_of_ble_eq_true rfl)
  rw [lg_entry_eq]
  generalize (lg_sl ([.ref h0, .int p0, .int p1, .ref qo]) ++ List.replicate (5 - (lg_sl ([.ref h0, .int p0, .int p1, .ref qo])).length) Slot.unset).toArray = ls at hl ⊢
  have hl : lv_has ls 5 [(0, .ref h0), (1, .int p0), (2, .int p1), (3, .ref qo)] := hl
  refine lv_aload_n hx hb dL_cycleIn_0 rfl (lv_at hl 3 rfl) ?_
  refine lv_iconst (v := 0) hx hb dL_cycleIn_1 (by decide) ?_
  refine lv_aload_n hx hb dL_cycleIn_2 rfl (lv_at hl 0 rfl) ?_
  refine lv_iload_n hx hb dL_cycleIn_3 rfl (lv_at hl 1 rfl) ?_
  refine lv_iload_n hx hb dL_cycleIn_4 rfl (lv_at hl 2 rfl) ?_
  have hPc := hP.sub (ws' := [(h0, .inr (9, [.ref qm, .ref qt, .ref qw, .ref qc, .ref qb, .ref qg, .int 0, .int 0, .int 0, .int 0, .int 0]))]) [0] rfl
  have hDc := hD.sub (ws' := [(h0, .inr (9, [.ref qm, .ref qt, .ref qw, .ref qc, .ref qb, .ref qg, .int 0, .int 0, .int 0, .int 0, .int 0]))]) [0] (by decide) rfl
  have hKc := hK.sub (tys' := []) [] rfl
  have hFc := va_free (wc := [(h0, .inr (9, [.ref qm, .ref qt, .ref qw, .ref qc, .ref qb, .ref qg, .int 0, .int 0, .int 0, .int 0, .int 0]))]) hD hS hA [0] rfl
  have hZc := ((hZ.kept hS.2.1).narrow hFc)
  refine vx_calli (vx_runV (As := [.int p0, .int p1]) (rest := [.int 0, .ref qo]) ⟨hx, hb, hml, hown, hts⟩ (c_X7_cycleIn l hnt dC dI a0 h0 qm qt qw qc qb qg p0 p1 s.heap.size ) (cwV 2 hts (goodIn_of _ (by decide +kernel)) rfl rfl rfl (by decide +kernel) ⟨Nat.le_of_ble_eq_true rfl, Nat.le_of_ble_eq_true rfl⟩) ⟨fun a U g mk q => by obtain ⟨q0, q1, qP, qK, qD, qZ⟩ := q; exact ⟨q0, q1, qP, va_K.moved (u := U) (U := U.calling g mk a) (Vm.Alike.refl U.vm) qK, qD, qZ.call⟩, va_recv hKc hPc (ci := 9) (q0 := 0) rfl rfl, fun U hU hW => ⟨rfl, by rw [hU], by rw [hU]; exact hPc, va_K.moved hW.alike hKc, hDc.weaken (fun _ _ _ _ => trivial), by rw [hU]; exact hZc.warm hW⟩⟩ rfl rfl hl.1 rfl (lv_room (Nat.le_of_ble_eq_true rfl)) dL_cycleIn_5 ⟨Nat.le_of_ble_eq_true rfl, Nat.le_of_ble_eq_true rfl⟩) hS (fun q _ h => hFc q h) hFc (fun q _ h => hFc q h) (fun E ce q9 u t H1 locs ht hvm hw hB hz1 hk1 hS hce hcv hcl => ?_) (fun r_1 u t H1 locs ht hvm hw hB hz1 hk1 hS => ?_)
  · obtain rfl := hB
    obtain ⟨hP, hD⟩ := va_join (D := (dC, dI)) (cl := vwCl) (wr := [(qo, .inl (cL, 1, .inr (.inl (fun _ => 0))))]) (w1 := []) hP hD [0] [1] rfl rfl (by decide) (by decide) hk1 hFc (fun k q h => by simp at h) ⟨fun i j p q h => by simp at h, fun k q h => by simp at h⟩
    refine vx_catch hown [] ⟨0, 10, 13, 21⟩ (tableOf [(0, 10, 13, 21), (0, 10, 17, 13)]).tail ((vx_table (x := yL_cycleIn) B (hts (.codeWith yL_cycleIn cL_cycleIn 5 (some .int) [(0, 10, 13, 21), (0, 10, 17, 13)]) (by decide +kernel))).trans rfl) (fun z h => by simp at h) (by decide) (by decide) (hts (.classLink RL 21 "java/lang/IndexOutOfBoundsException") (by decide +kernel)) (zz_cast (hts (.instantiable "java/lang/IndexOutOfBoundsException" 6) (by decide +kernel))) hce hcv hcl ?_
    generalize H1 = H at hP hS ⊢
    have hP : va_P (dC, dI) vwCl [(qo, .inl (cL, 1, .inr (.inl (fun _ => 0))))] H := hP
    have hD : va_D A [(qo, .inl (cL, 1, .inr (.inl (fun _ => 0))))] := hD
    refine W.widen (k := 1) (n := 6) (Nat.le_of_ble_eq_true rfl) (Nat.le_of_ble_eq_true rfl) ?_
    refine lv_astore (lv' := [(4, .ref q9), (0, .ref h0), (1, .int p0), (2, .int p1), (3, .ref qo)]) hx hb dL_cycleIn_13 hl (by decide) rfl (fun ls hl => ?_)
    refine lv_iconst (v := 1) hx hb dL_cycleIn_15 (by decide) ?_
    have hP9 := hP.sub (ws' := []) [] rfl
    have hD9 := hD.sub (ws' := []) [] (by decide) rfl
    have hK9 := hK.sub (tys' := []) [] rfl
    refine W.widen (k := 1) (n := 6) (Nat.le_of_ble_eq_true rfl) (Nat.le_of_ble_eq_true rfl) ?_
    exact W.iret (v := 1) hx hb hr (fun t ht hW => ⟨⟨1, (), rfl, rfl, ⟨by rw [ht]; exact hP9, va_K.moved hW.alike hK9, hD9⟩⟩, hS.F ht⟩) hS.2.2 dL_cycleIn_16
  exact hB.elim

def zs_c_L_backIn : List Cond := .codeWith yL_backIn cL_backIn 4 (some .int) [(0, 9, 12, 21)] :: (([.code yX7_backIn cX7_backIn 2 (some .int), .code yX7_find cX7_find 3 (some (.object "Haltingale$Machine")), .classLink RX7 301 "java/lang/IndexOutOfBoundsException", .initialized "java/lang/IndexOutOfBoundsException", .fieldLink RX7 148 "Haltingale" "machineCount" "I", .methodLink RX7 67 yX7_find, .instanceMethod yX7_find, .initialized RX7, .selects RX7 yX7_find yX7_find, .methodLink RL 80 yX7_backIn, .instanceMethod yX7_backIn, .selects RX7 yX7_backIn yX7_backIn, .classLink RL 21 "java/lang/IndexOutOfBoundsException"] : List Cond) ++ (vx_atS RX7 305 "java/lang/IndexOutOfBoundsException" ["java/lang/RuntimeException", "java/lang/Exception"]).filter goodWord ++ wsX70)
set_option maxHeartbeats 4000000 in
set_option maxRecDepth 100000 in
/-- the law's backIn, refused -/
theorem c_L_backIn (l : Launch) (hnt : l.stackTraces = false) (dC : Nat → ClassId) (dI : Nat → Nat → Nat) (a0 : Nat) (h0 : Nat) (qm : Nat) (qt : Nat) (qw : Nat) (qc : Nat) (qb : Nat) (qg : Nat) (qo : Nat) (cL : ClassId) (p0 : Int32) (sz : Nat)  : Met l yL_backIn zs_c_L_backIn ({ frames := 8, cells := 1, slots := 6, locals := 125 }) (va_Pc [.ref h0, .int p0, .ref qo] (fun U => U.heap.size = sz ∧ va_P (dC, dI) vwCl [(h0, .inr (9, [.ref qm, .ref qt, .ref qw, .ref qc, .ref qb, .ref qg, .int 0, .int 0, .int 0, .int 0, .int 0])), (qo, .inl (cL, 1, .inr (.inl (fun _ => 0))))] U.heap ∧ va_K (dC, dI) vwCl [(cL, .long)] U ∧ va_D (fun _ => True) [(h0, .inr (9, [.ref qm, .ref qt, .ref qw, .ref qc, .ref qb, .ref qg, .int 0, .int 0, .int 0, .int 0, .int 0])), (qo, .inl (cL, 1, .inr (.inl (fun _ => 0))))] ∧ zB a0 (va_A [(h0, .inr (9, [.ref qm, .ref qt, .ref qw, .ref qc, .ref qb, .ref qg, .int 0, .int 0, .int 0, .int 0, .int 0])), (qo, .inl (cL, 1, .inr (.inl (fun _ => 0))))] sz) U U.heap)) (va_Qi (fun (r : Int32) (_ : Unit) => r = 1) (fun _ t => va_P (dC, dI) vwCl [] t.heap ∧ va_K (dC, dI) vwCl [] t ∧ va_D (va_A [(h0, .inr (9, [.ref qm, .ref qt, .ref qw, .ref qc, .ref qb, .ref qg, .int 0, .int 0, .int 0, .int 0, .int 0])), (qo, .inl (cL, 1, .inr (.inl (fun _ => 0))))] sz) []) (va_A [(h0, .inr (9, [.ref qm, .ref qt, .ref qw, .ref qc, .ref qb, .ref qg, .int 0, .int 0, .int 0, .int 0, .int 0])), (qo, .inl (cL, 1, .inr (.inl (fun _ => 0))))] sz)) 1 6 (va_A [(h0, .inr (9, [.ref qm, .ref qt, .ref qw, .ref qc, .ref qb, .ref qg, .int 0, .int 0, .int 0, .int 0, .int 0])), (qo, .inl (cL, 1, .inr (.inl (fun _ => 0))))] sz) := by
  refine va_MetW (cc := cL_backIn) (maxL := 4) (ret := (some .int)) (hh := [(0, 9, 12, 21)]) (by decide) rfl ?_
  intro p e s m args below meth c s₁ B hml hv
  obtain ⟨rfl, hsz, hP, hK, hD0, hZ⟩ := hv
  have hx := B.exec
  have hb := B.bytes
  have hr := B.returns
  have hts := atoms_spec (ws := zs_c_L_backIn) B.pre
  have hown : s.vm.findClass RL = some m.cls := findClass_of_methodNamed B.named
  have hlocks := B.notSynchronized
  subst hsz
  have hD := hD0.self (sz := s.heap.size)
  generalize hAe : va_A [(h0, .inr (9, [.ref qm, .ref qt, .ref qw, .ref qc, .ref qb, .ref qg, .int 0, .int 0, .int 0, .int 0, .int 0])), (qo, .inl (cL, 1, .inr (.inl (fun _ => 0))))] s.heap.size = A at hD hZ ⊢
  have hA : ∀ q : Nat, s.heap.size ≤ q → A q := fun q h => by rw [← hAe]; exact Or.inr h
  have hS : va_S A s.heap s.heap [] := va_S.rf
  have hl := lv_entry ([.ref h0, .int p0, .ref qo]) (n := 4) (Nat.le_of_ble_eq_true rfl)
  rw [lg_entry_eq]
  generalize (lg_sl ([.ref h0, .int p0, .ref qo]) ++ List.replicate (4 - (lg_sl ([.ref h0, .int p0, .ref qo])).length) Slot.unset).toArray = ls at hl ⊢
  have hl : lv_has ls 4 [(0, .ref h0), (1, .int p0), (2, .ref qo)] := hl
  refine lv_aload_n hx hb dL_backIn_0 rfl (lv_at hl 2 rfl) ?_
  refine lv_iconst (v := 0) hx hb dL_backIn_1 (by decide) ?_
  refine lv_aload_n hx hb dL_backIn_2 rfl (lv_at hl 0 rfl) ?_
  refine lv_iload_n hx hb dL_backIn_3 rfl (lv_at hl 1 rfl) ?_
  have hPc := hP.sub (ws' := [(h0, .inr (9, [.ref qm, .ref qt, .ref qw, .ref qc, .ref qb, .ref qg, .int 0, .int 0, .int 0, .int 0, .int 0]))]) [0] rfl
  have hDc := hD.sub (ws' := [(h0, .inr (9, [.ref qm, .ref qt, .ref qw, .ref qc, .ref qb, .ref qg, .int 0, .int 0, .int 0, .int 0, .int 0]))]) [0] (by decide) rfl
  have hKc := hK.sub (tys' := []) [] rfl
  have hFc := va_free (wc := [(h0, .inr (9, [.ref qm, .ref qt, .ref qw, .ref qc, .ref qb, .ref qg, .int 0, .int 0, .int 0, .int 0, .int 0]))]) hD hS hA [0] rfl
  have hZc := ((hZ.kept hS.2.1).narrow hFc)
  refine vx_calli (vx_runV (As := [.int p0]) (rest := [.int 0, .ref qo]) ⟨hx, hb, hml, hown, hts⟩ (c_X7_backIn l hnt dC dI a0 h0 qm qt qw qc qb qg p0 s.heap.size ) (cwV 1 hts (goodIn_of _ (by decide +kernel)) rfl rfl rfl (by decide +kernel) ⟨Nat.le_of_ble_eq_true rfl, Nat.le_of_ble_eq_true rfl⟩) ⟨fun a U g mk q => by obtain ⟨q0, q1, qP, qK, qD, qZ⟩ := q; exact ⟨q0, q1, qP, va_K.moved (u := U) (U := U.calling g mk a) (Vm.Alike.refl U.vm) qK, qD, qZ.call⟩, va_recv hKc hPc (ci := 9) (q0 := 0) rfl rfl, fun U hU hW => ⟨rfl, by rw [hU], by rw [hU]; exact hPc, va_K.moved hW.alike hKc, hDc.weaken (fun _ _ _ _ => trivial), by rw [hU]; exact hZc.warm hW⟩⟩ rfl rfl hl.1 rfl (lv_room (Nat.le_of_ble_eq_true rfl)) dL_backIn_4 ⟨Nat.le_of_ble_eq_true rfl, Nat.le_of_ble_eq_true rfl⟩) hS (fun q _ h => hFc q h) hFc (fun q _ h => hFc q h) (fun E ce q9 u t H1 locs ht hvm hw hB hz1 hk1 hS hce hcv hcl => ?_) (fun r_1 u t H1 locs ht hvm hw hB hz1 hk1 hS => ?_)
  · obtain rfl := hB
    obtain ⟨hP, hD⟩ := va_join (D := (dC, dI)) (cl := vwCl) (wr := [(qo, .inl (cL, 1, .inr (.inl (fun _ => 0))))]) (w1 := []) hP hD [0] [1] rfl rfl (by decide) (by decide) hk1 hFc (fun k q h => by simp at h) ⟨fun i j p q h => by simp at h, fun k q h => by simp at h⟩
    refine vx_catch hown [] ⟨0, 9, 12, 21⟩ (tableOf [(0, 9, 12, 21)]).tail ((vx_table (x := yL_backIn) B (hts (.codeWith yL_backIn cL_backIn 4 (some .int) [(0, 9, 12, 21)]) (by decide +kernel))).trans rfl) (fun z h => by simp at h) (by decide) (by decide) (hts (.classLink RL 21 "java/lang/IndexOutOfBoundsException") (by decide +kernel)) (zz_cast (hts (.instantiable "java/lang/IndexOutOfBoundsException" 6) (by decide +kernel))) hce hcv hcl ?_
    generalize H1 = H at hP hS ⊢
    have hP : va_P (dC, dI) vwCl [(qo, .inl (cL, 1, .inr (.inl (fun _ => 0))))] H := hP
    have hD : va_D A [(qo, .inl (cL, 1, .inr (.inl (fun _ => 0))))] := hD
    refine W.widen (k := 1) (n := 6) (Nat.le_of_ble_eq_true rfl) (Nat.le_of_ble_eq_true rfl) ?_
    refine lv_astore_n (lv' := [(3, .ref q9), (0, .ref h0), (1, .int p0), (2, .ref qo)]) hx hb dL_backIn_12 rfl hl (by decide) rfl (fun ls hl => ?_)
    refine lv_iconst (v := 1) hx hb dL_backIn_13 (by decide) ?_
    have hP9 := hP.sub (ws' := []) [] rfl
    have hD9 := hD.sub (ws' := []) [] (by decide) rfl
    have hK9 := hK.sub (tys' := []) [] rfl
    refine W.widen (k := 1) (n := 6) (Nat.le_of_ble_eq_true rfl) (Nat.le_of_ble_eq_true rfl) ?_
    exact W.iret (v := 1) hx hb hr (fun t ht hW => ⟨⟨1, (), rfl, rfl, ⟨by rw [ht]; exact hP9, va_K.moved hW.alike hK9, hD9⟩⟩, hS.F ht⟩) hS.2.2 dL_backIn_14
  exact hB.elim

def zs_c_L_gramIn : List Cond := .codeWith yL_gramIn cL_gramIn 4 (some .int) [(0, 9, 12, 21)] :: (([.code yX7_gramIn cX7_gramIn 2 (some .int), .fieldLink RX7 45 "Haltingale" "gram" "LHaltingale$Gram;", .code yX7_find cX7_find 3 (some (.object "Haltingale$Machine")), .classLink RX7 301 "java/lang/IndexOutOfBoundsException", .initialized "java/lang/IndexOutOfBoundsException", .fieldLink RX7 148 "Haltingale" "machineCount" "I", .methodLink RX7 67 yX7_find, .instanceMethod yX7_find, .initialized RX7, .selects RX7 yX7_find yX7_find, .methodLink RL 83 yX7_gramIn, .instanceMethod yX7_gramIn, .selects RX7 yX7_gramIn yX7_gramIn, .classLink RL 21 "java/lang/IndexOutOfBoundsException"] : List Cond) ++ wsX70 ++ (vx_atS RX7 305 "java/lang/IndexOutOfBoundsException" ["java/lang/RuntimeException", "java/lang/Exception"]).filter goodWord)
set_option maxHeartbeats 4000000 in
set_option maxRecDepth 100000 in
/-- the law's gramIn, refused -/
theorem c_L_gramIn (l : Launch) (hnt : l.stackTraces = false) (dC : Nat → ClassId) (dI : Nat → Nat → Nat) (a0 : Nat) (h0 : Nat) (qm : Nat) (qt : Nat) (qw : Nat) (qc : Nat) (qb : Nat) (qg : Nat) (qo : Nat) (cL : ClassId) (p0 : Int32) (sz : Nat)  : Met l yL_gramIn zs_c_L_gramIn ({ frames := 8, cells := 1, slots := 6, locals := 125 }) (va_Pc [.ref h0, .int p0, .ref qo] (fun U => U.heap.size = sz ∧ va_P (dC, dI) vwCl [(h0, .inr (9, [.ref qm, .ref qt, .ref qw, .ref qc, .ref qb, .ref qg, .int 0, .int 0, .int 0, .int 0, .int 0])), (qo, .inl (cL, 1, .inr (.inl (fun _ => 0))))] U.heap ∧ va_K (dC, dI) vwCl [(cL, .long)] U ∧ va_D (fun _ => True) [(h0, .inr (9, [.ref qm, .ref qt, .ref qw, .ref qc, .ref qb, .ref qg, .int 0, .int 0, .int 0, .int 0, .int 0])), (qo, .inl (cL, 1, .inr (.inl (fun _ => 0))))] ∧ zB a0 (va_A [(h0, .inr (9, [.ref qm, .ref qt, .ref qw, .ref qc, .ref qb, .ref qg, .int 0, .int 0, .int 0, .int 0, .int 0])), (qo, .inl (cL, 1, .inr (.inl (fun _ => 0))))] sz) U U.heap)) (va_Qi (fun (r : Int32) (_ : Unit) => r = 1) (fun _ t => va_P (dC, dI) vwCl [] t.heap ∧ va_K (dC, dI) vwCl [] t ∧ va_D (va_A [(h0, .inr (9, [.ref qm, .ref qt, .ref qw, .ref qc, .ref qb, .ref qg, .int 0, .int 0, .int 0, .int 0, .int 0])), (qo, .inl (cL, 1, .inr (.inl (fun _ => 0))))] sz) []) (va_A [(h0, .inr (9, [.ref qm, .ref qt, .ref qw, .ref qc, .ref qb, .ref qg, .int 0, .int 0, .int 0, .int 0, .int 0])), (qo, .inl (cL, 1, .inr (.inl (fun _ => 0))))] sz)) 1 6 (va_A [(h0, .inr (9, [.ref qm, .ref qt, .ref qw, .ref qc, .ref qb, .ref qg, .int 0, .int 0, .int 0, .int 0, .int 0])), (qo, .inl (cL, 1, .inr (.inl (fun _ => 0))))] sz) := by
  refine va_MetW (cc := cL_gramIn) (maxL := 4) (ret := (some .int)) (hh := [(0, 9, 12, 21)]) (by decide) rfl ?_
  intro p e s m args below meth c s₁ B hml hv
  obtain ⟨rfl, hsz, hP, hK, hD0, hZ⟩ := hv
  have hx := B.exec
  have hb := B.bytes
  have hr := B.returns
  have hts := atoms_spec (ws := zs_c_L_gramIn) B.pre
  have hown : s.vm.findClass RL = some m.cls := findClass_of_methodNamed B.named
  have hlocks := B.notSynchronized
  subst hsz
  have hD := hD0.self (sz := s.heap.size)
  generalize hAe : va_A [(h0, .inr (9, [.ref qm, .ref qt, .ref qw, .ref qc, .ref qb, .ref qg, .int 0, .int 0, .int 0, .int 0, .int 0])), (qo, .inl (cL, 1, .inr (.inl (fun _ => 0))))] s.heap.size = A at hD hZ ⊢
  have hA : ∀ q : Nat, s.heap.size ≤ q → A q := fun q h => by rw [← hAe]; exact Or.inr h
  have hS : va_S A s.heap s.heap [] := va_S.rf
  have hl := lv_entry ([.ref h0, .int p0, .ref qo]) (n := 4) (Nat.le_of_ble_eq_true rfl)
  rw [lg_entry_eq]
  generalize (lg_sl ([.ref h0, .int p0, .ref qo]) ++ List.replicate (4 - (lg_sl ([.ref h0, .int p0, .ref qo])).length) Slot.unset).toArray = ls at hl ⊢
  have hl : lv_has ls 4 [(0, .ref h0), (1, .int p0), (2, .ref qo)] := hl
  refine lv_aload_n hx hb dL_gramIn_0 rfl (lv_at hl 2 rfl) ?_
  refine lv_iconst (v := 0) hx hb dL_gramIn_1 (by decide) ?_
  refine lv_aload_n hx hb dL_gramIn_2 rfl (lv_at hl 0 rfl) ?_
  refine lv_iload_n hx hb dL_gramIn_3 rfl (lv_at hl 1 rfl) ?_
  have hPc := hP.sub (ws' := [(h0, .inr (9, [.ref qm, .ref qt, .ref qw, .ref qc, .ref qb, .ref qg, .int 0, .int 0, .int 0, .int 0, .int 0]))]) [0] rfl
  have hDc := hD.sub (ws' := [(h0, .inr (9, [.ref qm, .ref qt, .ref qw, .ref qc, .ref qb, .ref qg, .int 0, .int 0, .int 0, .int 0, .int 0]))]) [0] (by decide) rfl
  have hKc := hK.sub (tys' := []) [] rfl
  have hFc := va_free (wc := [(h0, .inr (9, [.ref qm, .ref qt, .ref qw, .ref qc, .ref qb, .ref qg, .int 0, .int 0, .int 0, .int 0, .int 0]))]) hD hS hA [0] rfl
  have hZc := ((hZ.kept hS.2.1).narrow hFc)
  refine vx_calli (vx_runV (As := [.int p0]) (rest := [.int 0, .ref qo]) ⟨hx, hb, hml, hown, hts⟩ (c_X7_gramIn l hnt dC dI a0 h0 qm qt qw qc qb qg p0 s.heap.size ) (cwV 1 hts (goodIn_of _ (by decide +kernel)) rfl rfl rfl (by decide +kernel) ⟨Nat.le_of_ble_eq_true rfl, Nat.le_of_ble_eq_true rfl⟩) ⟨fun a U g mk q => by obtain ⟨q0, q1, qP, qK, qD, qZ⟩ := q; exact ⟨q0, q1, qP, va_K.moved (u := U) (U := U.calling g mk a) (Vm.Alike.refl U.vm) qK, qD, qZ.call⟩, va_recv hKc hPc (ci := 9) (q0 := 0) rfl rfl, fun U hU hW => ⟨rfl, by rw [hU], by rw [hU]; exact hPc, va_K.moved hW.alike hKc, hDc.weaken (fun _ _ _ _ => trivial), by rw [hU]; exact hZc.warm hW⟩⟩ rfl rfl hl.1 rfl (lv_room (Nat.le_of_ble_eq_true rfl)) dL_gramIn_4 ⟨Nat.le_of_ble_eq_true rfl, Nat.le_of_ble_eq_true rfl⟩) hS (fun q _ h => hFc q h) hFc (fun q _ h => hFc q h) (fun E ce q9 u t H1 locs ht hvm hw hB hz1 hk1 hS hce hcv hcl => ?_) (fun r_1 u t H1 locs ht hvm hw hB hz1 hk1 hS => ?_)
  · obtain rfl := hB
    obtain ⟨hP, hD⟩ := va_join (D := (dC, dI)) (cl := vwCl) (wr := [(qo, .inl (cL, 1, .inr (.inl (fun _ => 0))))]) (w1 := []) hP hD [0] [1] rfl rfl (by decide) (by decide) hk1 hFc (fun k q h => by simp at h) ⟨fun i j p q h => by simp at h, fun k q h => by simp at h⟩
    refine vx_catch hown [] ⟨0, 9, 12, 21⟩ (tableOf [(0, 9, 12, 21)]).tail ((vx_table (x := yL_gramIn) B (hts (.codeWith yL_gramIn cL_gramIn 4 (some .int) [(0, 9, 12, 21)]) (by decide +kernel))).trans rfl) (fun z h => by simp at h) (by decide) (by decide) (hts (.classLink RL 21 "java/lang/IndexOutOfBoundsException") (by decide +kernel)) (zz_cast (hts (.instantiable "java/lang/IndexOutOfBoundsException" 6) (by decide +kernel))) hce hcv hcl ?_
    generalize H1 = H at hP hS ⊢
    have hP : va_P (dC, dI) vwCl [(qo, .inl (cL, 1, .inr (.inl (fun _ => 0))))] H := hP
    have hD : va_D A [(qo, .inl (cL, 1, .inr (.inl (fun _ => 0))))] := hD
    refine W.widen (k := 1) (n := 6) (Nat.le_of_ble_eq_true rfl) (Nat.le_of_ble_eq_true rfl) ?_
    refine lv_astore_n (lv' := [(3, .ref q9), (0, .ref h0), (1, .int p0), (2, .ref qo)]) hx hb dL_gramIn_12 rfl hl (by decide) rfl (fun ls hl => ?_)
    refine lv_iconst (v := 1) hx hb dL_gramIn_13 (by decide) ?_
    have hP9 := hP.sub (ws' := []) [] rfl
    have hD9 := hD.sub (ws' := []) [] (by decide) rfl
    have hK9 := hK.sub (tys' := []) [] rfl
    refine W.widen (k := 1) (n := 6) (Nat.le_of_ble_eq_true rfl) (Nat.le_of_ble_eq_true rfl) ?_
    exact W.iret (v := 1) hx hb hr (fun t ht hW => ⟨⟨1, (), rfl, rfl, ⟨by rw [ht]; exact hP9, va_K.moved hW.alike hK9, hD9⟩⟩, hS.F ht⟩) hS.2.2 dL_gramIn_14
  exact hB.elim

def zs_c_L_tagged : List Cond := .codeWith yL_tagged cL_tagged 6 (some .int) [(0, 12, 15, 21), (0, 12, 19, 13)] :: (([.code yX7_tagged cX7_tagged 7 (some .int), .code yX7_findTag cX7_findTag 3 (some (.object "Haltingale$Tag")), .classLink RX7 301 "java/lang/IndexOutOfBoundsException", .initialized "java/lang/IndexOutOfBoundsException", .fieldLink RX7 122 "Haltingale" "tagCount" "I", .methodLink RX7 242 yX7_findTag, .instanceMethod yX7_findTag, .initialized RX7, .selects RX7 yX7_findTag yX7_findTag, .methodLink RL 71 yX7_tagged, .instanceMethod yX7_tagged, .selects RX7 yX7_tagged yX7_tagged, .classLink RL 21 "java/lang/IndexOutOfBoundsException"] : List Cond) ++ (vx_atS RX7 305 "java/lang/IndexOutOfBoundsException" ["java/lang/RuntimeException", "java/lang/Exception"]).filter goodWord ++ wsX70)
set_option maxHeartbeats 4000000 in
set_option maxRecDepth 100000 in
/-- the law's tagged, refused -/
theorem c_L_tagged (l : Launch) (hnt : l.stackTraces = false) (dC : Nat → ClassId) (dI : Nat → Nat → Nat) (a0 : Nat) (h0 : Nat) (qm : Nat) (qt : Nat) (qw : Nat) (qc : Nat) (qb : Nat) (qg : Nat) (qo : Nat) (cL : ClassId) (p0 : Int32) (p1 : Int32) (p2 : Int32) (sz : Nat)  : Met l yL_tagged zs_c_L_tagged ({ frames := 8, cells := 1, slots := 6, locals := 130 }) (va_Pc [.ref h0, .int p0, .int p1, .int p2, .ref qo] (fun U => U.heap.size = sz ∧ va_P (dC, dI) vwCl [(h0, .inr (9, [.ref qm, .ref qt, .ref qw, .ref qc, .ref qb, .ref qg, .int 0, .int 0, .int 0, .int 0, .int 0])), (qo, .inl (cL, 1, .inr (.inl (fun _ => 0))))] U.heap ∧ va_K (dC, dI) vwCl [(cL, .long)] U ∧ va_D (fun _ => True) [(h0, .inr (9, [.ref qm, .ref qt, .ref qw, .ref qc, .ref qb, .ref qg, .int 0, .int 0, .int 0, .int 0, .int 0])), (qo, .inl (cL, 1, .inr (.inl (fun _ => 0))))] ∧ zB a0 (va_A [(h0, .inr (9, [.ref qm, .ref qt, .ref qw, .ref qc, .ref qb, .ref qg, .int 0, .int 0, .int 0, .int 0, .int 0])), (qo, .inl (cL, 1, .inr (.inl (fun _ => 0))))] sz) U U.heap)) (va_Qi (fun (r : Int32) (_ : Unit) => r = 1) (fun _ t => va_P (dC, dI) vwCl [] t.heap ∧ va_K (dC, dI) vwCl [] t ∧ va_D (va_A [(h0, .inr (9, [.ref qm, .ref qt, .ref qw, .ref qc, .ref qb, .ref qg, .int 0, .int 0, .int 0, .int 0, .int 0])), (qo, .inl (cL, 1, .inr (.inl (fun _ => 0))))] sz) []) (va_A [(h0, .inr (9, [.ref qm, .ref qt, .ref qw, .ref qc, .ref qb, .ref qg, .int 0, .int 0, .int 0, .int 0, .int 0])), (qo, .inl (cL, 1, .inr (.inl (fun _ => 0))))] sz)) 1 6 (va_A [(h0, .inr (9, [.ref qm, .ref qt, .ref qw, .ref qc, .ref qb, .ref qg, .int 0, .int 0, .int 0, .int 0, .int 0])), (qo, .inl (cL, 1, .inr (.inl (fun _ => 0))))] sz) := by
  refine va_MetW (cc := cL_tagged) (maxL := 6) (ret := (some .int)) (hh := [(0, 12, 15, 21), (0, 12, 19, 13)]) (by decide) rfl ?_
  intro p e s m args below meth c s₁ B hml hv
  obtain ⟨rfl, hsz, hP, hK, hD0, hZ⟩ := hv
  have hx := B.exec
  have hb := B.bytes
  have hr := B.returns
  have hts := atoms_spec (ws := zs_c_L_tagged) B.pre
  have hown : s.vm.findClass RL = some m.cls := findClass_of_methodNamed B.named
  have hlocks := B.notSynchronized
  subst hsz
  have hD := hD0.self (sz := s.heap.size)
  generalize hAe : va_A [(h0, .inr (9, [.ref qm, .ref qt, .ref qw, .ref qc, .ref qb, .ref qg, .int 0, .int 0, .int 0, .int 0, .int 0])), (qo, .inl (cL, 1, .inr (.inl (fun _ => 0))))] s.heap.size = A at hD hZ ⊢
  have hA : ∀ q : Nat, s.heap.size ≤ q → A q := fun q h => by rw [← hAe]; exact Or.inr h
  have hS : va_S A s.heap s.heap [] := va_S.rf
  have hl := lv_entry ([.ref h0, .int p0, .int p1, .int p2, .ref qo]) (n := 6) (Nat.le_of_ble_eq_true rfl)
  rw [lg_entry_eq]
  generalize (lg_sl ([.ref h0, .int p0, .int p1, .int p2, .ref qo]) ++ List.replicate (6 - (lg_sl ([.ref h0, .int p0, .int p1, .int p2, .ref qo])).length) Slot.unset).toArray = ls at hl ⊢
  have hl : lv_has ls 6 [(0, .ref h0), (1, .int p0), (2, .int p1), (3, .int p2), (4, .ref qo)] := hl
  refine lv_aload hx hb dL_tagged_0 (lv_at hl 4 rfl) ?_
  refine lv_iconst (v := 0) hx hb dL_tagged_2 (by decide) ?_
  refine lv_aload_n hx hb dL_tagged_3 rfl (lv_at hl 0 rfl) ?_
  refine lv_iload_n hx hb dL_tagged_4 rfl (lv_at hl 1 rfl) ?_
  refine lv_iload_n hx hb dL_tagged_5 rfl (lv_at hl 2 rfl) ?_
  refine lv_iload_n hx hb dL_tagged_6 rfl (lv_at hl 3 rfl) ?_
  have hPc := hP.sub (ws' := [(h0, .inr (9, [.ref qm, .ref qt, .ref qw, .ref qc, .ref qb, .ref qg, .int 0, .int 0, .int 0, .int 0, .int 0]))]) [0] rfl
  have hDc := hD.sub (ws' := [(h0, .inr (9, [.ref qm, .ref qt, .ref qw, .ref qc, .ref qb, .ref qg, .int 0, .int 0, .int 0, .int 0, .int 0]))]) [0] (by decide) rfl
  have hKc := hK.sub (tys' := []) [] rfl
  have hFc := va_free (wc := [(h0, .inr (9, [.ref qm, .ref qt, .ref qw, .ref qc, .ref qb, .ref qg, .int 0, .int 0, .int 0, .int 0, .int 0]))]) hD hS hA [0] rfl
  have hZc := ((hZ.kept hS.2.1).narrow hFc)
  refine vx_calli (vx_runV (As := [.int p0, .int p1, .int p2]) (rest := [.int 0, .ref qo]) ⟨hx, hb, hml, hown, hts⟩ (c_X7_tagged l hnt dC dI a0 h0 qm qt qw qc qb qg p0 p1 p2 s.heap.size ) (cwV 3 hts (goodIn_of _ (by decide +kernel)) rfl rfl rfl (by decide +kernel) ⟨Nat.le_of_ble_eq_true rfl, Nat.le_of_ble_eq_true rfl⟩) ⟨fun a U g mk q => by obtain ⟨q0, q1, qP, qK, qD, qZ⟩ := q; exact ⟨q0, q1, qP, va_K.moved (u := U) (U := U.calling g mk a) (Vm.Alike.refl U.vm) qK, qD, qZ.call⟩, va_recv hKc hPc (ci := 9) (q0 := 0) rfl rfl, fun U hU hW => ⟨rfl, by rw [hU], by rw [hU]; exact hPc, va_K.moved hW.alike hKc, hDc.weaken (fun _ _ _ _ => trivial), by rw [hU]; exact hZc.warm hW⟩⟩ rfl rfl hl.1 rfl (lv_room (Nat.le_of_ble_eq_true rfl)) dL_tagged_7 ⟨Nat.le_of_ble_eq_true rfl, Nat.le_of_ble_eq_true rfl⟩) hS (fun q _ h => hFc q h) hFc (fun q _ h => hFc q h) (fun E ce q9 u t H1 locs ht hvm hw hB hz1 hk1 hS hce hcv hcl => ?_) (fun r_1 u t H1 locs ht hvm hw hB hz1 hk1 hS => ?_)
  · obtain rfl := hB
    obtain ⟨hP, hD⟩ := va_join (D := (dC, dI)) (cl := vwCl) (wr := [(qo, .inl (cL, 1, .inr (.inl (fun _ => 0))))]) (w1 := []) hP hD [0] [1] rfl rfl (by decide) (by decide) hk1 hFc (fun k q h => by simp at h) ⟨fun i j p q h => by simp at h, fun k q h => by simp at h⟩
    refine vx_catch hown [] ⟨0, 12, 15, 21⟩ (tableOf [(0, 12, 15, 21), (0, 12, 19, 13)]).tail ((vx_table (x := yL_tagged) B (hts (.codeWith yL_tagged cL_tagged 6 (some .int) [(0, 12, 15, 21), (0, 12, 19, 13)]) (by decide +kernel))).trans rfl) (fun z h => by simp at h) (by decide) (by decide) (hts (.classLink RL 21 "java/lang/IndexOutOfBoundsException") (by decide +kernel)) (zz_cast (hts (.instantiable "java/lang/IndexOutOfBoundsException" 6) (by decide +kernel))) hce hcv hcl ?_
    generalize H1 = H at hP hS ⊢
    have hP : va_P (dC, dI) vwCl [(qo, .inl (cL, 1, .inr (.inl (fun _ => 0))))] H := hP
    have hD : va_D A [(qo, .inl (cL, 1, .inr (.inl (fun _ => 0))))] := hD
    refine W.widen (k := 1) (n := 6) (Nat.le_of_ble_eq_true rfl) (Nat.le_of_ble_eq_true rfl) ?_
    refine lv_astore (lv' := [(5, .ref q9), (0, .ref h0), (1, .int p0), (2, .int p1), (3, .int p2), (4, .ref qo)]) hx hb dL_tagged_15 hl (by decide) rfl (fun ls hl => ?_)
    refine lv_iconst (v := 1) hx hb dL_tagged_17 (by decide) ?_
    have hP9 := hP.sub (ws' := []) [] rfl
    have hD9 := hD.sub (ws' := []) [] (by decide) rfl
    have hK9 := hK.sub (tys' := []) [] rfl
    refine W.widen (k := 1) (n := 6) (Nat.le_of_ble_eq_true rfl) (Nat.le_of_ble_eq_true rfl) ?_
    exact W.iret (v := 1) hx hb hr (fun t ht hW => ⟨⟨1, (), rfl, rfl, ⟨by rw [ht]; exact hP9, va_K.moved hW.alike hK9, hD9⟩⟩, hS.F ht⟩) hS.2.2 dL_tagged_18
  exact hB.elim

def zs_c_L_machine_no : List Cond := .codeWith yL_machine cL_machine 4 (some .int) [(0, 9, 12, 13), (0, 9, 15, 15)] :: (([.code yX7_machine cX7_machine 2 (some .int), .code yX7_isWithin cX7_isWithin 3 (some .boolean), .methodLink RX7 49 yX7_isWithin, .static yX7_isWithin, .initialized RX7, .code yX7_require cX7_require 1 none, .classLink RX7 292 "java/lang/IllegalArgumentException", .initialized "java/lang/IllegalArgumentException", .methodLink RX7 53 yX7_require, .static yX7_require, .methodLink RL 7 yX7_machine, .instanceMethod yX7_machine, .selects RX7 yX7_machine yX7_machine, .classLink RL 13 "java/lang/IllegalArgumentException"] : List Cond) ++ (vx_atS RX7 296 "java/lang/IllegalArgumentException" ["java/lang/RuntimeException", "java/lang/Exception"]).filter goodWord)
set_option maxHeartbeats 4000000 in
set_option maxRecDepth 100000 in
/-- the law's machine, refused -/
theorem c_L_machine_no (l : Launch) (hnt : l.stackTraces = false) (dC : Nat → ClassId) (dI : Nat → Nat → Nat) (a0 : Nat) (h0 : Nat) (qm : Nat) (qt : Nat) (qw : Nat) (qc : Nat) (qb : Nat) (qg : Nat) (qo : Nat) (cL : ClassId) (p0 : Int32) (sz : Nat) (hp : zw p0 2 4 = 0) : Met l yL_machine zs_c_L_machine_no ({ frames := 8, cells := 1, slots := 6, locals := 123 }) (va_Pc [.ref h0, .int p0, .ref qo] (fun U => U.heap.size = sz ∧ va_P (dC, dI) vwCl [(h0, .inr (9, [.ref qm, .ref qt, .ref qw, .ref qc, .ref qb, .ref qg, .int 0, .int 0, .int 0, .int 0, .int 0])), (qo, .inl (cL, 1, .inr (.inl (fun _ => 0))))] U.heap ∧ va_K (dC, dI) vwCl [(cL, .long)] U ∧ va_D (fun _ => True) [(h0, .inr (9, [.ref qm, .ref qt, .ref qw, .ref qc, .ref qb, .ref qg, .int 0, .int 0, .int 0, .int 0, .int 0])), (qo, .inl (cL, 1, .inr (.inl (fun _ => 0))))] ∧ zB a0 (va_A [(h0, .inr (9, [.ref qm, .ref qt, .ref qw, .ref qc, .ref qb, .ref qg, .int 0, .int 0, .int 0, .int 0, .int 0])), (qo, .inl (cL, 1, .inr (.inl (fun _ => 0))))] sz) U U.heap)) (va_Qi (fun (r : Int32) (_ : Unit) => r = 1) (fun _ t => va_P (dC, dI) vwCl [] t.heap ∧ va_K (dC, dI) vwCl [] t ∧ va_D (va_A [(h0, .inr (9, [.ref qm, .ref qt, .ref qw, .ref qc, .ref qb, .ref qg, .int 0, .int 0, .int 0, .int 0, .int 0])), (qo, .inl (cL, 1, .inr (.inl (fun _ => 0))))] sz) []) (va_A [(h0, .inr (9, [.ref qm, .ref qt, .ref qw, .ref qc, .ref qb, .ref qg, .int 0, .int 0, .int 0, .int 0, .int 0])), (qo, .inl (cL, 1, .inr (.inl (fun _ => 0))))] sz)) 1 6 (va_A [(h0, .inr (9, [.ref qm, .ref qt, .ref qw, .ref qc, .ref qb, .ref qg, .int 0, .int 0, .int 0, .int 0, .int 0])), (qo, .inl (cL, 1, .inr (.inl (fun _ => 0))))] sz) := by
  refine va_MetW (cc := cL_machine) (maxL := 4) (ret := (some .int)) (hh := [(0, 9, 12, 13), (0, 9, 15, 15)]) (by decide) rfl ?_
  intro p e s m args below meth c s₁ B hml hv
  obtain ⟨rfl, hsz, hP, hK, hD0, hZ⟩ := hv
  have hx := B.exec
  have hb := B.bytes
  have hr := B.returns
  have hts := atoms_spec (ws := zs_c_L_machine_no) B.pre
  have hown : s.vm.findClass RL = some m.cls := findClass_of_methodNamed B.named
  have hlocks := B.notSynchronized
  subst hsz
  have hD := hD0.self (sz := s.heap.size)
  generalize hAe : va_A [(h0, .inr (9, [.ref qm, .ref qt, .ref qw, .ref qc, .ref qb, .ref qg, .int 0, .int 0, .int 0, .int 0, .int 0])), (qo, .inl (cL, 1, .inr (.inl (fun _ => 0))))] s.heap.size = A at hD hZ ⊢
  have hA : ∀ q : Nat, s.heap.size ≤ q → A q := fun q h => by rw [← hAe]; exact Or.inr h
  have hS : va_S A s.heap s.heap [] := va_S.rf
  have hl := lv_entry ([.ref h0, .int p0, .ref qo]) (n := 4) (Nat.le_of_ble_eq_true rfl)
  rw [lg_entry_eq]
  generalize (lg_sl ([.ref h0, .int p0, .ref qo]) ++ List.replicate (4 - (lg_sl ([.ref h0, .int p0, .ref qo])).length) Slot.unset).toArray = ls at hl ⊢
  have hl : lv_has ls 4 [(0, .ref h0), (1, .int p0), (2, .ref qo)] := hl
  refine lv_aload_n hx hb dL_machine_0 rfl (lv_at hl 2 rfl) ?_
  refine lv_iconst (v := 0) hx hb dL_machine_1 (by decide) ?_
  refine lv_aload_n hx hb dL_machine_2 rfl (lv_at hl 0 rfl) ?_
  refine lv_iload_n hx hb dL_machine_3 rfl (lv_at hl 1 rfl) ?_
  have hPc := hP.sub (ws' := [(h0, .inr (9, [.ref qm, .ref qt, .ref qw, .ref qc, .ref qb, .ref qg, .int 0, .int 0, .int 0, .int 0, .int 0]))]) [0] rfl
  have hDc := hD.sub (ws' := [(h0, .inr (9, [.ref qm, .ref qt, .ref qw, .ref qc, .ref qb, .ref qg, .int 0, .int 0, .int 0, .int 0, .int 0]))]) [0] (by decide) rfl
  have hKc := hK.sub (tys' := []) [] rfl
  have hFc := va_free (wc := [(h0, .inr (9, [.ref qm, .ref qt, .ref qw, .ref qc, .ref qb, .ref qg, .int 0, .int 0, .int 0, .int 0, .int 0]))]) hD hS hA [0] rfl
  have hZc := ((hZ.kept hS.2.1).narrow hFc)
  refine vx_calli (vx_runV (As := [.int p0]) (rest := [.int 0, .ref qo]) ⟨hx, hb, hml, hown, hts⟩ (c_X7_machine_no l hnt dC dI a0 h0 qm qt qw qc qb qg p0 s.heap.size (by first | assumption | decide)) (cwV 1 hts (goodIn_of _ (by decide +kernel)) rfl rfl rfl (by decide +kernel) ⟨Nat.le_of_ble_eq_true rfl, Nat.le_of_ble_eq_true rfl⟩) ⟨fun a U g mk q => by obtain ⟨q0, q1, qP, qK, qD, qZ⟩ := q; exact ⟨q0, q1, qP, va_K.moved (u := U) (U := U.calling g mk a) (Vm.Alike.refl U.vm) qK, qD, qZ.call⟩, va_recv hKc hPc (ci := 9) (q0 := 0) rfl rfl, fun U hU hW => ⟨rfl, by rw [hU], by rw [hU]; exact hPc, va_K.moved hW.alike hKc, hDc.weaken (fun _ _ _ _ => trivial), by rw [hU]; exact hZc.warm hW⟩⟩ rfl rfl hl.1 rfl (lv_room (Nat.le_of_ble_eq_true rfl)) dL_machine_4 ⟨Nat.le_of_ble_eq_true rfl, Nat.le_of_ble_eq_true rfl⟩) hS (fun q _ h => hFc q h) hFc (fun q _ h => hFc q h) (fun E ce q9 u t H1 locs ht hvm hw hB hz1 hk1 hS hce hcv hcl => ?_) (fun r_1 u t H1 locs ht hvm hw hB hz1 hk1 hS => ?_)
  · obtain rfl := hB
    obtain ⟨hP, hD⟩ := va_join (D := (dC, dI)) (cl := vwCl) (wr := [(qo, .inl (cL, 1, .inr (.inl (fun _ => 0))))]) (w1 := []) hP hD [0] [1] rfl rfl (by decide) (by decide) hk1 hFc (fun k q h => by simp at h) ⟨fun i j p q h => by simp at h, fun k q h => by simp at h⟩
    refine vx_catch hown [] ⟨0, 9, 12, 13⟩ (tableOf [(0, 9, 12, 13), (0, 9, 15, 15)]).tail ((vx_table (x := yL_machine) B (hts (.codeWith yL_machine cL_machine 4 (some .int) [(0, 9, 12, 13), (0, 9, 15, 15)]) (by decide +kernel))).trans rfl) (fun z h => by simp at h) (by decide) (by decide) (hts (.classLink RL 13 "java/lang/IllegalArgumentException") (by decide +kernel)) (zz_cast (hts (.instantiable "java/lang/IllegalArgumentException" 6) (by decide +kernel))) hce hcv hcl ?_
    generalize H1 = H at hP hS ⊢
    have hP : va_P (dC, dI) vwCl [(qo, .inl (cL, 1, .inr (.inl (fun _ => 0))))] H := hP
    have hD : va_D A [(qo, .inl (cL, 1, .inr (.inl (fun _ => 0))))] := hD
    refine W.widen (k := 1) (n := 6) (Nat.le_of_ble_eq_true rfl) (Nat.le_of_ble_eq_true rfl) ?_
    refine lv_astore_n (lv' := [(3, .ref q9), (0, .ref h0), (1, .int p0), (2, .ref qo)]) hx hb dL_machine_12 rfl hl (by decide) rfl (fun ls hl => ?_)
    refine lv_iconst (v := 1) hx hb dL_machine_13 (by decide) ?_
    have hP9 := hP.sub (ws' := []) [] rfl
    have hD9 := hD.sub (ws' := []) [] (by decide) rfl
    have hK9 := hK.sub (tys' := []) [] rfl
    refine W.widen (k := 1) (n := 6) (Nat.le_of_ble_eq_true rfl) (Nat.le_of_ble_eq_true rfl) ?_
    exact W.iret (v := 1) hx hb hr (fun t ht hW => ⟨⟨1, (), rfl, rfl, ⟨by rw [ht]; exact hP9, va_K.moved hW.alike hK9, hD9⟩⟩, hS.F ht⟩) hS.2.2 dL_machine_14
  exact hB.elim

def zs_c_L_doubt_no : List Cond := .codeWith yL_doubt cL_doubt 4 (some .int) [(0, 9, 12, 13)] :: (([.code yX7_doubt cX7_doubt 5 (some .int), .code yX7_isWithin cX7_isWithin 3 (some .boolean), .methodLink RX7 49 yX7_isWithin, .static yX7_isWithin, .initialized RX7, .code yX7_require cX7_require 1 none, .classLink RX7 292 "java/lang/IllegalArgumentException", .initialized "java/lang/IllegalArgumentException", .methodLink RX7 53 yX7_require, .static yX7_require, .methodLink RL 39 yX7_doubt, .instanceMethod yX7_doubt, .selects RX7 yX7_doubt yX7_doubt, .classLink RL 13 "java/lang/IllegalArgumentException"] : List Cond) ++ (vx_atS RX7 296 "java/lang/IllegalArgumentException" ["java/lang/RuntimeException", "java/lang/Exception"]).filter goodWord)
set_option maxHeartbeats 4000000 in
set_option maxRecDepth 100000 in
/-- the law's doubt, refused -/
theorem c_L_doubt_no (l : Launch) (hnt : l.stackTraces = false) (dC : Nat → ClassId) (dI : Nat → Nat → Nat) (a0 : Nat) (h0 : Nat) (qm : Nat) (qt : Nat) (qw : Nat) (qc : Nat) (qb : Nat) (qg : Nat) (qo : Nat) (cL : ClassId) (p0 : Int32) (sz : Nat) (hp : zw p0 0 3 = 0) : Met l yL_doubt zs_c_L_doubt_no ({ frames := 8, cells := 1, slots := 6, locals := 126 }) (va_Pc [.ref h0, .int p0, .ref qo] (fun U => U.heap.size = sz ∧ va_P (dC, dI) vwCl [(h0, .inr (9, [.ref qm, .ref qt, .ref qw, .ref qc, .ref qb, .ref qg, .int 0, .int 0, .int 0, .int 0, .int 0])), (qo, .inl (cL, 1, .inr (.inl (fun _ => 0))))] U.heap ∧ va_K (dC, dI) vwCl [(cL, .long)] U ∧ va_D (fun _ => True) [(h0, .inr (9, [.ref qm, .ref qt, .ref qw, .ref qc, .ref qb, .ref qg, .int 0, .int 0, .int 0, .int 0, .int 0])), (qo, .inl (cL, 1, .inr (.inl (fun _ => 0))))] ∧ zB a0 (va_A [(h0, .inr (9, [.ref qm, .ref qt, .ref qw, .ref qc, .ref qb, .ref qg, .int 0, .int 0, .int 0, .int 0, .int 0])), (qo, .inl (cL, 1, .inr (.inl (fun _ => 0))))] sz) U U.heap)) (va_Qi (fun (r : Int32) (_ : Unit) => r = 1) (fun _ t => va_P (dC, dI) vwCl [] t.heap ∧ va_K (dC, dI) vwCl [] t ∧ va_D (va_A [(h0, .inr (9, [.ref qm, .ref qt, .ref qw, .ref qc, .ref qb, .ref qg, .int 0, .int 0, .int 0, .int 0, .int 0])), (qo, .inl (cL, 1, .inr (.inl (fun _ => 0))))] sz) []) (va_A [(h0, .inr (9, [.ref qm, .ref qt, .ref qw, .ref qc, .ref qb, .ref qg, .int 0, .int 0, .int 0, .int 0, .int 0])), (qo, .inl (cL, 1, .inr (.inl (fun _ => 0))))] sz)) 1 6 (va_A [(h0, .inr (9, [.ref qm, .ref qt, .ref qw, .ref qc, .ref qb, .ref qg, .int 0, .int 0, .int 0, .int 0, .int 0])), (qo, .inl (cL, 1, .inr (.inl (fun _ => 0))))] sz) := by
  refine va_MetW (cc := cL_doubt) (maxL := 4) (ret := (some .int)) (hh := [(0, 9, 12, 13)]) (by decide) rfl ?_
  intro p e s m args below meth c s₁ B hml hv
  obtain ⟨rfl, hsz, hP, hK, hD0, hZ⟩ := hv
  have hx := B.exec
  have hb := B.bytes
  have hr := B.returns
  have hts := atoms_spec (ws := zs_c_L_doubt_no) B.pre
  have hown : s.vm.findClass RL = some m.cls := findClass_of_methodNamed B.named
  have hlocks := B.notSynchronized
  subst hsz
  have hD := hD0.self (sz := s.heap.size)
  generalize hAe : va_A [(h0, .inr (9, [.ref qm, .ref qt, .ref qw, .ref qc, .ref qb, .ref qg, .int 0, .int 0, .int 0, .int 0, .int 0])), (qo, .inl (cL, 1, .inr (.inl (fun _ => 0))))] s.heap.size = A at hD hZ ⊢
  have hA : ∀ q : Nat, s.heap.size ≤ q → A q := fun q h => by rw [← hAe]; exact Or.inr h
  have hS : va_S A s.heap s.heap [] := va_S.rf
  have hl := lv_entry ([.ref h0, .int p0, .ref qo]) (n := 4) (Nat.le_of_ble_eq_true rfl)
  rw [lg_entry_eq]
  generalize (lg_sl ([.ref h0, .int p0, .ref qo]) ++ List.replicate (4 - (lg_sl ([.ref h0, .int p0, .ref qo])).length) Slot.unset).toArray = ls at hl ⊢
  have hl : lv_has ls 4 [(0, .ref h0), (1, .int p0), (2, .ref qo)] := hl
  refine lv_aload_n hx hb dL_doubt_0 rfl (lv_at hl 2 rfl) ?_
  refine lv_iconst (v := 0) hx hb dL_doubt_1 (by decide) ?_
  refine lv_aload_n hx hb dL_doubt_2 rfl (lv_at hl 0 rfl) ?_
  refine lv_iload_n hx hb dL_doubt_3 rfl (lv_at hl 1 rfl) ?_
  have hPc := hP.sub (ws' := [(h0, .inr (9, [.ref qm, .ref qt, .ref qw, .ref qc, .ref qb, .ref qg, .int 0, .int 0, .int 0, .int 0, .int 0]))]) [0] rfl
  have hDc := hD.sub (ws' := [(h0, .inr (9, [.ref qm, .ref qt, .ref qw, .ref qc, .ref qb, .ref qg, .int 0, .int 0, .int 0, .int 0, .int 0]))]) [0] (by decide) rfl
  have hKc := hK.sub (tys' := []) [] rfl
  have hFc := va_free (wc := [(h0, .inr (9, [.ref qm, .ref qt, .ref qw, .ref qc, .ref qb, .ref qg, .int 0, .int 0, .int 0, .int 0, .int 0]))]) hD hS hA [0] rfl
  have hZc := ((hZ.kept hS.2.1).narrow hFc)
  refine vx_calli (vx_runV (As := [.int p0]) (rest := [.int 0, .ref qo]) ⟨hx, hb, hml, hown, hts⟩ (c_X7_doubt_no l hnt dC dI a0 h0 qm qt qw qc qb qg p0 s.heap.size (by first | assumption | decide)) (cwV 1 hts (goodIn_of _ (by decide +kernel)) rfl rfl rfl (by decide +kernel) ⟨Nat.le_of_ble_eq_true rfl, Nat.le_of_ble_eq_true rfl⟩) ⟨fun a U g mk q => by obtain ⟨q0, q1, qP, qK, qD, qZ⟩ := q; exact ⟨q0, q1, qP, va_K.moved (u := U) (U := U.calling g mk a) (Vm.Alike.refl U.vm) qK, qD, qZ.call⟩, va_recv hKc hPc (ci := 9) (q0 := 0) rfl rfl, fun U hU hW => ⟨rfl, by rw [hU], by rw [hU]; exact hPc, va_K.moved hW.alike hKc, hDc.weaken (fun _ _ _ _ => trivial), by rw [hU]; exact hZc.warm hW⟩⟩ rfl rfl hl.1 rfl (lv_room (Nat.le_of_ble_eq_true rfl)) dL_doubt_4 ⟨Nat.le_of_ble_eq_true rfl, Nat.le_of_ble_eq_true rfl⟩) hS (fun q _ h => hFc q h) hFc (fun q _ h => hFc q h) (fun E ce q9 u t H1 locs ht hvm hw hB hz1 hk1 hS hce hcv hcl => ?_) (fun r_1 u t H1 locs ht hvm hw hB hz1 hk1 hS => ?_)
  · obtain rfl := hB
    obtain ⟨hP, hD⟩ := va_join (D := (dC, dI)) (cl := vwCl) (wr := [(qo, .inl (cL, 1, .inr (.inl (fun _ => 0))))]) (w1 := []) hP hD [0] [1] rfl rfl (by decide) (by decide) hk1 hFc (fun k q h => by simp at h) ⟨fun i j p q h => by simp at h, fun k q h => by simp at h⟩
    refine vx_catch hown [] ⟨0, 9, 12, 13⟩ (tableOf [(0, 9, 12, 13)]).tail ((vx_table (x := yL_doubt) B (hts (.codeWith yL_doubt cL_doubt 4 (some .int) [(0, 9, 12, 13)]) (by decide +kernel))).trans rfl) (fun z h => by simp at h) (by decide) (by decide) (hts (.classLink RL 13 "java/lang/IllegalArgumentException") (by decide +kernel)) (zz_cast (hts (.instantiable "java/lang/IllegalArgumentException" 6) (by decide +kernel))) hce hcv hcl ?_
    generalize H1 = H at hP hS ⊢
    have hP : va_P (dC, dI) vwCl [(qo, .inl (cL, 1, .inr (.inl (fun _ => 0))))] H := hP
    have hD : va_D A [(qo, .inl (cL, 1, .inr (.inl (fun _ => 0))))] := hD
    refine W.widen (k := 1) (n := 6) (Nat.le_of_ble_eq_true rfl) (Nat.le_of_ble_eq_true rfl) ?_
    refine lv_astore_n (lv' := [(3, .ref q9), (0, .ref h0), (1, .int p0), (2, .ref qo)]) hx hb dL_doubt_12 rfl hl (by decide) rfl (fun ls hl => ?_)
    refine lv_iconst (v := 1) hx hb dL_doubt_13 (by decide) ?_
    have hP9 := hP.sub (ws' := []) [] rfl
    have hD9 := hD.sub (ws' := []) [] (by decide) rfl
    have hK9 := hK.sub (tys' := []) [] rfl
    refine W.widen (k := 1) (n := 6) (Nat.le_of_ble_eq_true rfl) (Nat.le_of_ble_eq_true rfl) ?_
    exact W.iret (v := 1) hx hb hr (fun t ht hW => ⟨⟨1, (), rfl, rfl, ⟨by rw [ht]; exact hP9, va_K.moved hW.alike hK9, hD9⟩⟩, hS.F ht⟩) hS.2.2 dL_doubt_14
  exact hB.elim

def zs_c_L_champion_no : List Cond := .codeWith yL_champion cL_champion 4 (some .int) [(0, 9, 12, 13)] :: (([.code yX7_champion cX7_champion 7 (some .int), .code yX7_isWithin cX7_isWithin 3 (some .boolean), .methodLink RX7 49 yX7_isWithin, .static yX7_isWithin, .initialized RX7, .code yX7_require cX7_require 1 none, .classLink RX7 292 "java/lang/IllegalArgumentException", .initialized "java/lang/IllegalArgumentException", .methodLink RX7 53 yX7_require, .static yX7_require, .methodLink RL 68 yX7_champion, .instanceMethod yX7_champion, .selects RX7 yX7_champion yX7_champion, .classLink RL 13 "java/lang/IllegalArgumentException"] : List Cond) ++ (vx_atS RX7 296 "java/lang/IllegalArgumentException" ["java/lang/RuntimeException", "java/lang/Exception"]).filter goodWord)
set_option maxHeartbeats 4000000 in
set_option maxRecDepth 100000 in
/-- the law's champion, refused -/
theorem c_L_champion_no (l : Launch) (hnt : l.stackTraces = false) (dC : Nat → ClassId) (dI : Nat → Nat → Nat) (a0 : Nat) (h0 : Nat) (qm : Nat) (qt : Nat) (qw : Nat) (qc : Nat) (qb : Nat) (qg : Nat) (qo : Nat) (cL : ClassId) (p0 : Int32) (sz : Nat) (hp : zw p0 0 1 = 0) : Met l yL_champion zs_c_L_champion_no ({ frames := 8, cells := 1, slots := 6, locals := 128 }) (va_Pc [.ref h0, .int p0, .ref qo] (fun U => U.heap.size = sz ∧ va_P (dC, dI) vwCl [(h0, .inr (9, [.ref qm, .ref qt, .ref qw, .ref qc, .ref qb, .ref qg, .int 0, .int 0, .int 0, .int 0, .int 0])), (qo, .inl (cL, 1, .inr (.inl (fun _ => 0))))] U.heap ∧ va_K (dC, dI) vwCl [(cL, .long)] U ∧ va_D (fun _ => True) [(h0, .inr (9, [.ref qm, .ref qt, .ref qw, .ref qc, .ref qb, .ref qg, .int 0, .int 0, .int 0, .int 0, .int 0])), (qo, .inl (cL, 1, .inr (.inl (fun _ => 0))))] ∧ zB a0 (va_A [(h0, .inr (9, [.ref qm, .ref qt, .ref qw, .ref qc, .ref qb, .ref qg, .int 0, .int 0, .int 0, .int 0, .int 0])), (qo, .inl (cL, 1, .inr (.inl (fun _ => 0))))] sz) U U.heap)) (va_Qi (fun (r : Int32) (_ : Unit) => r = 1) (fun _ t => va_P (dC, dI) vwCl [] t.heap ∧ va_K (dC, dI) vwCl [] t ∧ va_D (va_A [(h0, .inr (9, [.ref qm, .ref qt, .ref qw, .ref qc, .ref qb, .ref qg, .int 0, .int 0, .int 0, .int 0, .int 0])), (qo, .inl (cL, 1, .inr (.inl (fun _ => 0))))] sz) []) (va_A [(h0, .inr (9, [.ref qm, .ref qt, .ref qw, .ref qc, .ref qb, .ref qg, .int 0, .int 0, .int 0, .int 0, .int 0])), (qo, .inl (cL, 1, .inr (.inl (fun _ => 0))))] sz)) 1 6 (va_A [(h0, .inr (9, [.ref qm, .ref qt, .ref qw, .ref qc, .ref qb, .ref qg, .int 0, .int 0, .int 0, .int 0, .int 0])), (qo, .inl (cL, 1, .inr (.inl (fun _ => 0))))] sz) := by
  refine va_MetW (cc := cL_champion) (maxL := 4) (ret := (some .int)) (hh := [(0, 9, 12, 13)]) (by decide) rfl ?_
  intro p e s m args below meth c s₁ B hml hv
  obtain ⟨rfl, hsz, hP, hK, hD0, hZ⟩ := hv
  have hx := B.exec
  have hb := B.bytes
  have hr := B.returns
  have hts := atoms_spec (ws := zs_c_L_champion_no) B.pre
  have hown : s.vm.findClass RL = some m.cls := findClass_of_methodNamed B.named
  have hlocks := B.notSynchronized
  subst hsz
  have hD := hD0.self (sz := s.heap.size)
  generalize hAe : va_A [(h0, .inr (9, [.ref qm, .ref qt, .ref qw, .ref qc, .ref qb, .ref qg, .int 0, .int 0, .int 0, .int 0, .int 0])), (qo, .inl (cL, 1, .inr (.inl (fun _ => 0))))] s.heap.size = A at hD hZ ⊢
  have hA : ∀ q : Nat, s.heap.size ≤ q → A q := fun q h => by rw [← hAe]; exact Or.inr h
  have hS : va_S A s.heap s.heap [] := va_S.rf
  have hl := lv_entry ([.ref h0, .int p0, .ref qo]) (n := 4) (Nat.le_of_ble_eq_true rfl)
  rw [lg_entry_eq]
  generalize (lg_sl ([.ref h0, .int p0, .ref qo]) ++ List.replicate (4 - (lg_sl ([.ref h0, .int p0, .ref qo])).length) Slot.unset).toArray = ls at hl ⊢
  have hl : lv_has ls 4 [(0, .ref h0), (1, .int p0), (2, .ref qo)] := hl
  refine lv_aload_n hx hb dL_champion_0 rfl (lv_at hl 2 rfl) ?_
  refine lv_iconst (v := 0) hx hb dL_champion_1 (by decide) ?_
  refine lv_aload_n hx hb dL_champion_2 rfl (lv_at hl 0 rfl) ?_
  refine lv_iload_n hx hb dL_champion_3 rfl (lv_at hl 1 rfl) ?_
  have hPc := hP.sub (ws' := [(h0, .inr (9, [.ref qm, .ref qt, .ref qw, .ref qc, .ref qb, .ref qg, .int 0, .int 0, .int 0, .int 0, .int 0]))]) [0] rfl
  have hDc := hD.sub (ws' := [(h0, .inr (9, [.ref qm, .ref qt, .ref qw, .ref qc, .ref qb, .ref qg, .int 0, .int 0, .int 0, .int 0, .int 0]))]) [0] (by decide) rfl
  have hKc := hK.sub (tys' := []) [] rfl
  have hFc := va_free (wc := [(h0, .inr (9, [.ref qm, .ref qt, .ref qw, .ref qc, .ref qb, .ref qg, .int 0, .int 0, .int 0, .int 0, .int 0]))]) hD hS hA [0] rfl
  have hZc := ((hZ.kept hS.2.1).narrow hFc)
  refine vx_calli (vx_runV (As := [.int p0]) (rest := [.int 0, .ref qo]) ⟨hx, hb, hml, hown, hts⟩ (c_X7_champion_no l hnt dC dI a0 h0 qm qt qw qc qb qg p0 s.heap.size (by first | assumption | decide)) (cwV 1 hts (goodIn_of _ (by decide +kernel)) rfl rfl rfl (by decide +kernel) ⟨Nat.le_of_ble_eq_true rfl, Nat.le_of_ble_eq_true rfl⟩) ⟨fun a U g mk q => by obtain ⟨q0, q1, qP, qK, qD, qZ⟩ := q; exact ⟨q0, q1, qP, va_K.moved (u := U) (U := U.calling g mk a) (Vm.Alike.refl U.vm) qK, qD, qZ.call⟩, va_recv hKc hPc (ci := 9) (q0 := 0) rfl rfl, fun U hU hW => ⟨rfl, by rw [hU], by rw [hU]; exact hPc, va_K.moved hW.alike hKc, hDc.weaken (fun _ _ _ _ => trivial), by rw [hU]; exact hZc.warm hW⟩⟩ rfl rfl hl.1 rfl (lv_room (Nat.le_of_ble_eq_true rfl)) dL_champion_4 ⟨Nat.le_of_ble_eq_true rfl, Nat.le_of_ble_eq_true rfl⟩) hS (fun q _ h => hFc q h) hFc (fun q _ h => hFc q h) (fun E ce q9 u t H1 locs ht hvm hw hB hz1 hk1 hS hce hcv hcl => ?_) (fun r_1 u t H1 locs ht hvm hw hB hz1 hk1 hS => ?_)
  · obtain rfl := hB
    obtain ⟨hP, hD⟩ := va_join (D := (dC, dI)) (cl := vwCl) (wr := [(qo, .inl (cL, 1, .inr (.inl (fun _ => 0))))]) (w1 := []) hP hD [0] [1] rfl rfl (by decide) (by decide) hk1 hFc (fun k q h => by simp at h) ⟨fun i j p q h => by simp at h, fun k q h => by simp at h⟩
    refine vx_catch hown [] ⟨0, 9, 12, 13⟩ (tableOf [(0, 9, 12, 13)]).tail ((vx_table (x := yL_champion) B (hts (.codeWith yL_champion cL_champion 4 (some .int) [(0, 9, 12, 13)]) (by decide +kernel))).trans rfl) (fun z h => by simp at h) (by decide) (by decide) (hts (.classLink RL 13 "java/lang/IllegalArgumentException") (by decide +kernel)) (zz_cast (hts (.instantiable "java/lang/IllegalArgumentException" 6) (by decide +kernel))) hce hcv hcl ?_
    generalize H1 = H at hP hS ⊢
    have hP : va_P (dC, dI) vwCl [(qo, .inl (cL, 1, .inr (.inl (fun _ => 0))))] H := hP
    have hD : va_D A [(qo, .inl (cL, 1, .inr (.inl (fun _ => 0))))] := hD
    refine W.widen (k := 1) (n := 6) (Nat.le_of_ble_eq_true rfl) (Nat.le_of_ble_eq_true rfl) ?_
    refine lv_astore_n (lv' := [(3, .ref q9), (0, .ref h0), (1, .int p0), (2, .ref qo)]) hx hb dL_champion_12 rfl hl (by decide) rfl (fun ls hl => ?_)
    refine lv_iconst (v := 1) hx hb dL_champion_13 (by decide) ?_
    have hP9 := hP.sub (ws' := []) [] rfl
    have hD9 := hD.sub (ws' := []) [] (by decide) rfl
    have hK9 := hK.sub (tys' := []) [] rfl
    refine W.widen (k := 1) (n := 6) (Nat.le_of_ble_eq_true rfl) (Nat.le_of_ble_eq_true rfl) ?_
    exact W.iret (v := 1) hx hb hr (fun t ht hW => ⟨⟨1, (), rfl, rfl, ⟨by rw [ht]; exact hP9, va_K.moved hW.alike hK9, hD9⟩⟩, hS.F ht⟩) hS.2.2 dL_champion_14
  exact hB.elim

def zs_c_L_many_no : List Cond := .codeWith yL_many cL_many 4 (some .int) [(0, 9, 12, 13)] :: (([.code yX7_many cX7_many 2 (some .int), .code yX7_isWithin cX7_isWithin 3 (some .boolean), .methodLink RX7 49 yX7_isWithin, .static yX7_isWithin, .initialized RX7, .code yX7_require cX7_require 1 none, .classLink RX7 292 "java/lang/IllegalArgumentException", .initialized "java/lang/IllegalArgumentException", .methodLink RX7 53 yX7_require, .static yX7_require, .methodLink RL 74 yX7_many, .instanceMethod yX7_many, .selects RX7 yX7_many yX7_many, .classLink RL 13 "java/lang/IllegalArgumentException"] : List Cond) ++ (vx_atS RX7 296 "java/lang/IllegalArgumentException" ["java/lang/RuntimeException", "java/lang/Exception"]).filter goodWord)
set_option maxHeartbeats 4000000 in
set_option maxRecDepth 100000 in
/-- the law's many, refused -/
theorem c_L_many_no (l : Launch) (hnt : l.stackTraces = false) (dC : Nat → ClassId) (dI : Nat → Nat → Nat) (a0 : Nat) (h0 : Nat) (qm : Nat) (qt : Nat) (qw : Nat) (qc : Nat) (qb : Nat) (qg : Nat) (qo : Nat) (cL : ClassId) (p0 : Int32) (sz : Nat) (hp : zw p0 0 10 = 0) : Met l yL_many zs_c_L_many_no ({ frames := 8, cells := 1, slots := 6, locals := 123 }) (va_Pc [.ref h0, .int p0, .ref qo] (fun U => U.heap.size = sz ∧ va_P (dC, dI) vwCl [(h0, .inr (9, [.ref qm, .ref qt, .ref qw, .ref qc, .ref qb, .ref qg, .int 0, .int 0, .int 0, .int 0, .int 0])), (qo, .inl (cL, 1, .inr (.inl (fun _ => 0))))] U.heap ∧ va_K (dC, dI) vwCl [(cL, .long)] U ∧ va_D (fun _ => True) [(h0, .inr (9, [.ref qm, .ref qt, .ref qw, .ref qc, .ref qb, .ref qg, .int 0, .int 0, .int 0, .int 0, .int 0])), (qo, .inl (cL, 1, .inr (.inl (fun _ => 0))))] ∧ zB a0 (va_A [(h0, .inr (9, [.ref qm, .ref qt, .ref qw, .ref qc, .ref qb, .ref qg, .int 0, .int 0, .int 0, .int 0, .int 0])), (qo, .inl (cL, 1, .inr (.inl (fun _ => 0))))] sz) U U.heap)) (va_Qi (fun (r : Int32) (_ : Unit) => r = 1) (fun _ t => va_P (dC, dI) vwCl [] t.heap ∧ va_K (dC, dI) vwCl [] t ∧ va_D (va_A [(h0, .inr (9, [.ref qm, .ref qt, .ref qw, .ref qc, .ref qb, .ref qg, .int 0, .int 0, .int 0, .int 0, .int 0])), (qo, .inl (cL, 1, .inr (.inl (fun _ => 0))))] sz) []) (va_A [(h0, .inr (9, [.ref qm, .ref qt, .ref qw, .ref qc, .ref qb, .ref qg, .int 0, .int 0, .int 0, .int 0, .int 0])), (qo, .inl (cL, 1, .inr (.inl (fun _ => 0))))] sz)) 1 6 (va_A [(h0, .inr (9, [.ref qm, .ref qt, .ref qw, .ref qc, .ref qb, .ref qg, .int 0, .int 0, .int 0, .int 0, .int 0])), (qo, .inl (cL, 1, .inr (.inl (fun _ => 0))))] sz) := by
  refine va_MetW (cc := cL_many) (maxL := 4) (ret := (some .int)) (hh := [(0, 9, 12, 13)]) (by decide) rfl ?_
  intro p e s m args below meth c s₁ B hml hv
  obtain ⟨rfl, hsz, hP, hK, hD0, hZ⟩ := hv
  have hx := B.exec
  have hb := B.bytes
  have hr := B.returns
  have hts := atoms_spec (ws := zs_c_L_many_no) B.pre
  have hown : s.vm.findClass RL = some m.cls := findClass_of_methodNamed B.named
  have hlocks := B.notSynchronized
  subst hsz
  have hD := hD0.self (sz := s.heap.size)
  generalize hAe : va_A [(h0, .inr (9, [.ref qm, .ref qt, .ref qw, .ref qc, .ref qb, .ref qg, .int 0, .int 0, .int 0, .int 0, .int 0])), (qo, .inl (cL, 1, .inr (.inl (fun _ => 0))))] s.heap.size = A at hD hZ ⊢
  have hA : ∀ q : Nat, s.heap.size ≤ q → A q := fun q h => by rw [← hAe]; exact Or.inr h
  have hS : va_S A s.heap s.heap [] := va_S.rf
  have hl := lv_entry ([.ref h0, .int p0, .ref qo]) (n := 4) (Nat.le_of_ble_eq_true rfl)
  rw [lg_entry_eq]
  generalize (lg_sl ([.ref h0, .int p0, .ref qo]) ++ List.replicate (4 - (lg_sl ([.ref h0, .int p0, .ref qo])).length) Slot.unset).toArray = ls at hl ⊢
  have hl : lv_has ls 4 [(0, .ref h0), (1, .int p0), (2, .ref qo)] := hl
  refine lv_aload_n hx hb dL_many_0 rfl (lv_at hl 2 rfl) ?_
  refine lv_iconst (v := 0) hx hb dL_many_1 (by decide) ?_
  refine lv_aload_n hx hb dL_many_2 rfl (lv_at hl 0 rfl) ?_
  refine lv_iload_n hx hb dL_many_3 rfl (lv_at hl 1 rfl) ?_
  have hPc := hP.sub (ws' := [(h0, .inr (9, [.ref qm, .ref qt, .ref qw, .ref qc, .ref qb, .ref qg, .int 0, .int 0, .int 0, .int 0, .int 0]))]) [0] rfl
  have hDc := hD.sub (ws' := [(h0, .inr (9, [.ref qm, .ref qt, .ref qw, .ref qc, .ref qb, .ref qg, .int 0, .int 0, .int 0, .int 0, .int 0]))]) [0] (by decide) rfl
  have hKc := hK.sub (tys' := []) [] rfl
  have hFc := va_free (wc := [(h0, .inr (9, [.ref qm, .ref qt, .ref qw, .ref qc, .ref qb, .ref qg, .int 0, .int 0, .int 0, .int 0, .int 0]))]) hD hS hA [0] rfl
  have hZc := ((hZ.kept hS.2.1).narrow hFc)
  refine vx_calli (vx_runV (As := [.int p0]) (rest := [.int 0, .ref qo]) ⟨hx, hb, hml, hown, hts⟩ (c_X7_many_no l hnt dC dI a0 h0 qm qt qw qc qb qg p0 s.heap.size (by first | assumption | decide)) (cwV 1 hts (goodIn_of _ (by decide +kernel)) rfl rfl rfl (by decide +kernel) ⟨Nat.le_of_ble_eq_true rfl, Nat.le_of_ble_eq_true rfl⟩) ⟨fun a U g mk q => by obtain ⟨q0, q1, qP, qK, qD, qZ⟩ := q; exact ⟨q0, q1, qP, va_K.moved (u := U) (U := U.calling g mk a) (Vm.Alike.refl U.vm) qK, qD, qZ.call⟩, va_recv hKc hPc (ci := 9) (q0 := 0) rfl rfl, fun U hU hW => ⟨rfl, by rw [hU], by rw [hU]; exact hPc, va_K.moved hW.alike hKc, hDc.weaken (fun _ _ _ _ => trivial), by rw [hU]; exact hZc.warm hW⟩⟩ rfl rfl hl.1 rfl (lv_room (Nat.le_of_ble_eq_true rfl)) dL_many_4 ⟨Nat.le_of_ble_eq_true rfl, Nat.le_of_ble_eq_true rfl⟩) hS (fun q _ h => hFc q h) hFc (fun q _ h => hFc q h) (fun E ce q9 u t H1 locs ht hvm hw hB hz1 hk1 hS hce hcv hcl => ?_) (fun r_1 u t H1 locs ht hvm hw hB hz1 hk1 hS => ?_)
  · obtain rfl := hB
    obtain ⟨hP, hD⟩ := va_join (D := (dC, dI)) (cl := vwCl) (wr := [(qo, .inl (cL, 1, .inr (.inl (fun _ => 0))))]) (w1 := []) hP hD [0] [1] rfl rfl (by decide) (by decide) hk1 hFc (fun k q h => by simp at h) ⟨fun i j p q h => by simp at h, fun k q h => by simp at h⟩
    refine vx_catch hown [] ⟨0, 9, 12, 13⟩ (tableOf [(0, 9, 12, 13)]).tail ((vx_table (x := yL_many) B (hts (.codeWith yL_many cL_many 4 (some .int) [(0, 9, 12, 13)]) (by decide +kernel))).trans rfl) (fun z h => by simp at h) (by decide) (by decide) (hts (.classLink RL 13 "java/lang/IllegalArgumentException") (by decide +kernel)) (zz_cast (hts (.instantiable "java/lang/IllegalArgumentException" 6) (by decide +kernel))) hce hcv hcl ?_
    generalize H1 = H at hP hS ⊢
    have hP : va_P (dC, dI) vwCl [(qo, .inl (cL, 1, .inr (.inl (fun _ => 0))))] H := hP
    have hD : va_D A [(qo, .inl (cL, 1, .inr (.inl (fun _ => 0))))] := hD
    refine W.widen (k := 1) (n := 6) (Nat.le_of_ble_eq_true rfl) (Nat.le_of_ble_eq_true rfl) ?_
    refine lv_astore_n (lv' := [(3, .ref q9), (0, .ref h0), (1, .int p0), (2, .ref qo)]) hx hb dL_many_12 rfl hl (by decide) rfl (fun ls hl => ?_)
    refine lv_iconst (v := 1) hx hb dL_many_13 (by decide) ?_
    have hP9 := hP.sub (ws' := []) [] rfl
    have hD9 := hD.sub (ws' := []) [] (by decide) rfl
    have hK9 := hK.sub (tys' := []) [] rfl
    refine W.widen (k := 1) (n := 6) (Nat.le_of_ble_eq_true rfl) (Nat.le_of_ble_eq_true rfl) ?_
    exact W.iret (v := 1) hx hb hr (fun t ht hW => ⟨⟨1, (), rfl, rfl, ⟨by rw [ht]; exact hP9, va_K.moved hW.alike hK9, hD9⟩⟩, hS.F ht⟩) hS.2.2 dL_many_14
  exact hB.elim

def zs_c_L_tag_no1 : List Cond := .codeWith yL_tag cL_tag 6 (some .int) [(0, 12, 15, 13), (0, 12, 19, 15)] :: (([.code yX7_tag cX7_tag 4 (some .int), .code yX7_isWithin cX7_isWithin 3 (some .boolean), .methodLink RX7 49 yX7_isWithin, .static yX7_isWithin, .initialized RX7, .code yX7_require cX7_require 1 none, .classLink RX7 292 "java/lang/IllegalArgumentException", .initialized "java/lang/IllegalArgumentException", .methodLink RX7 53 yX7_require, .static yX7_require, .methodLink RL 31 yX7_tag, .instanceMethod yX7_tag, .selects RX7 yX7_tag yX7_tag, .classLink RL 13 "java/lang/IllegalArgumentException"] : List Cond) ++ (vx_atS RX7 296 "java/lang/IllegalArgumentException" ["java/lang/RuntimeException", "java/lang/Exception"]).filter goodWord)
set_option maxHeartbeats 4000000 in
set_option maxRecDepth 100000 in
/-- the law's tag, refused -/
theorem c_L_tag_no1 (l : Launch) (hnt : l.stackTraces = false) (dC : Nat → ClassId) (dI : Nat → Nat → Nat) (a0 : Nat) (h0 : Nat) (qm : Nat) (qt : Nat) (qw : Nat) (qc : Nat) (qb : Nat) (qg : Nat) (qo : Nat) (cL : ClassId) (p0 : Int32) (p1 : Int32) (p2 : Int32) (sz : Nat) (hp0 : zw p0 1 3 = 0) : Met l yL_tag zs_c_L_tag_no1 ({ frames := 8, cells := 1, slots := 6, locals := 125 }) (va_Pc [.ref h0, .int p0, .int p1, .int p2, .ref qo] (fun U => U.heap.size = sz ∧ va_P (dC, dI) vwCl [(h0, .inr (9, [.ref qm, .ref qt, .ref qw, .ref qc, .ref qb, .ref qg, .int 0, .int 0, .int 0, .int 0, .int 0])), (qo, .inl (cL, 1, .inr (.inl (fun _ => 0))))] U.heap ∧ va_K (dC, dI) vwCl [(cL, .long)] U ∧ va_D (fun _ => True) [(h0, .inr (9, [.ref qm, .ref qt, .ref qw, .ref qc, .ref qb, .ref qg, .int 0, .int 0, .int 0, .int 0, .int 0])), (qo, .inl (cL, 1, .inr (.inl (fun _ => 0))))] ∧ zB a0 (va_A [(h0, .inr (9, [.ref qm, .ref qt, .ref qw, .ref qc, .ref qb, .ref qg, .int 0, .int 0, .int 0, .int 0, .int 0])), (qo, .inl (cL, 1, .inr (.inl (fun _ => 0))))] sz) U U.heap)) (va_Qi (fun (r : Int32) (_ : Unit) => r = 1) (fun _ t => va_P (dC, dI) vwCl [] t.heap ∧ va_K (dC, dI) vwCl [] t ∧ va_D (va_A [(h0, .inr (9, [.ref qm, .ref qt, .ref qw, .ref qc, .ref qb, .ref qg, .int 0, .int 0, .int 0, .int 0, .int 0])), (qo, .inl (cL, 1, .inr (.inl (fun _ => 0))))] sz) []) (va_A [(h0, .inr (9, [.ref qm, .ref qt, .ref qw, .ref qc, .ref qb, .ref qg, .int 0, .int 0, .int 0, .int 0, .int 0])), (qo, .inl (cL, 1, .inr (.inl (fun _ => 0))))] sz)) 1 6 (va_A [(h0, .inr (9, [.ref qm, .ref qt, .ref qw, .ref qc, .ref qb, .ref qg, .int 0, .int 0, .int 0, .int 0, .int 0])), (qo, .inl (cL, 1, .inr (.inl (fun _ => 0))))] sz) := by
  refine va_MetW (cc := cL_tag) (maxL := 6) (ret := (some .int)) (hh := [(0, 12, 15, 13), (0, 12, 19, 15)]) (by decide) rfl ?_
  intro p e s m args below meth c s₁ B hml hv
  obtain ⟨rfl, hsz, hP, hK, hD0, hZ⟩ := hv
  have hx := B.exec
  have hb := B.bytes
  have hr := B.returns
  have hts := atoms_spec (ws := zs_c_L_tag_no1) B.pre
  have hown : s.vm.findClass RL = some m.cls := findClass_of_methodNamed B.named
  have hlocks := B.notSynchronized
  subst hsz
  have hD := hD0.self (sz := s.heap.size)
  generalize hAe : va_A [(h0, .inr (9, [.ref qm, .ref qt, .ref qw, .ref qc, .ref qb, .ref qg, .int 0, .int 0, .int 0, .int 0, .int 0])), (qo, .inl (cL, 1, .inr (.inl (fun _ => 0))))] s.heap.size = A at hD hZ ⊢
  have hA : ∀ q : Nat, s.heap.size ≤ q → A q := fun q h => by rw [← hAe]; exact Or.inr h
  have hS : va_S A s.heap s.heap [] := va_S.rf
  have hl := lv_entry ([.ref h0, .int p0, .int p1, .int p2, .ref qo]) (n := 6) (Nat.le_of_ble_eq_true rfl)
  rw [lg_entry_eq]
  generalize (lg_sl ([.ref h0, .int p0, .int p1, .int p2, .ref qo]) ++ List.replicate (6 - (lg_sl ([.ref h0, .int p0, .int p1, .int p2, .ref qo])).length) Slot.unset).toArray = ls at hl ⊢
  have hl : lv_has ls 6 [(0, .ref h0), (1, .int p0), (2, .int p1), (3, .int p2), (4, .ref qo)] := hl
  refine lv_aload hx hb dL_tag_0 (lv_at hl 4 rfl) ?_
  refine lv_iconst (v := 0) hx hb dL_tag_2 (by decide) ?_
  refine lv_aload_n hx hb dL_tag_3 rfl (lv_at hl 0 rfl) ?_
  refine lv_iload_n hx hb dL_tag_4 rfl (lv_at hl 1 rfl) ?_
  refine lv_iload_n hx hb dL_tag_5 rfl (lv_at hl 2 rfl) ?_
  refine lv_iload_n hx hb dL_tag_6 rfl (lv_at hl 3 rfl) ?_
  have hPc := hP.sub (ws' := [(h0, .inr (9, [.ref qm, .ref qt, .ref qw, .ref qc, .ref qb, .ref qg, .int 0, .int 0, .int 0, .int 0, .int 0]))]) [0] rfl
  have hDc := hD.sub (ws' := [(h0, .inr (9, [.ref qm, .ref qt, .ref qw, .ref qc, .ref qb, .ref qg, .int 0, .int 0, .int 0, .int 0, .int 0]))]) [0] (by decide) rfl
  have hKc := hK.sub (tys' := []) [] rfl
  have hFc := va_free (wc := [(h0, .inr (9, [.ref qm, .ref qt, .ref qw, .ref qc, .ref qb, .ref qg, .int 0, .int 0, .int 0, .int 0, .int 0]))]) hD hS hA [0] rfl
  have hZc := ((hZ.kept hS.2.1).narrow hFc)
  refine vx_calli (vx_runV (As := [.int p0, .int p1, .int p2]) (rest := [.int 0, .ref qo]) ⟨hx, hb, hml, hown, hts⟩ (c_X7_tag_no1 l hnt dC dI a0 h0 qm qt qw qc qb qg p0 p1 p2 s.heap.size (by first | assumption | decide)) (cwV 3 hts (goodIn_of _ (by decide +kernel)) rfl rfl rfl (by decide +kernel) ⟨Nat.le_of_ble_eq_true rfl, Nat.le_of_ble_eq_true rfl⟩) ⟨fun a U g mk q => by obtain ⟨q0, q1, qP, qK, qD, qZ⟩ := q; exact ⟨q0, q1, qP, va_K.moved (u := U) (U := U.calling g mk a) (Vm.Alike.refl U.vm) qK, qD, qZ.call⟩, va_recv hKc hPc (ci := 9) (q0 := 0) rfl rfl, fun U hU hW => ⟨rfl, by rw [hU], by rw [hU]; exact hPc, va_K.moved hW.alike hKc, hDc.weaken (fun _ _ _ _ => trivial), by rw [hU]; exact hZc.warm hW⟩⟩ rfl rfl hl.1 rfl (lv_room (Nat.le_of_ble_eq_true rfl)) dL_tag_7 ⟨Nat.le_of_ble_eq_true rfl, Nat.le_of_ble_eq_true rfl⟩) hS (fun q _ h => hFc q h) hFc (fun q _ h => hFc q h) (fun E ce q9 u t H1 locs ht hvm hw hB hz1 hk1 hS hce hcv hcl => ?_) (fun r_1 u t H1 locs ht hvm hw hB hz1 hk1 hS => ?_)
  · obtain rfl := hB
    obtain ⟨hP, hD⟩ := va_join (D := (dC, dI)) (cl := vwCl) (wr := [(qo, .inl (cL, 1, .inr (.inl (fun _ => 0))))]) (w1 := []) hP hD [0] [1] rfl rfl (by decide) (by decide) hk1 hFc (fun k q h => by simp at h) ⟨fun i j p q h => by simp at h, fun k q h => by simp at h⟩
    refine vx_catch hown [] ⟨0, 12, 15, 13⟩ (tableOf [(0, 12, 15, 13), (0, 12, 19, 15)]).tail ((vx_table (x := yL_tag) B (hts (.codeWith yL_tag cL_tag 6 (some .int) [(0, 12, 15, 13), (0, 12, 19, 15)]) (by decide +kernel))).trans rfl) (fun z h => by simp at h) (by decide) (by decide) (hts (.classLink RL 13 "java/lang/IllegalArgumentException") (by decide +kernel)) (zz_cast (hts (.instantiable "java/lang/IllegalArgumentException" 6) (by decide +kernel))) hce hcv hcl ?_
    generalize H1 = H at hP hS ⊢
    have hP : va_P (dC, dI) vwCl [(qo, .inl (cL, 1, .inr (.inl (fun _ => 0))))] H := hP
    have hD : va_D A [(qo, .inl (cL, 1, .inr (.inl (fun _ => 0))))] := hD
    refine W.widen (k := 1) (n := 6) (Nat.le_of_ble_eq_true rfl) (Nat.le_of_ble_eq_true rfl) ?_
    refine lv_astore (lv' := [(5, .ref q9), (0, .ref h0), (1, .int p0), (2, .int p1), (3, .int p2), (4, .ref qo)]) hx hb dL_tag_15 hl (by decide) rfl (fun ls hl => ?_)
    refine lv_iconst (v := 1) hx hb dL_tag_17 (by decide) ?_
    have hP9 := hP.sub (ws' := []) [] rfl
    have hD9 := hD.sub (ws' := []) [] (by decide) rfl
    have hK9 := hK.sub (tys' := []) [] rfl
    refine W.widen (k := 1) (n := 6) (Nat.le_of_ble_eq_true rfl) (Nat.le_of_ble_eq_true rfl) ?_
    exact W.iret (v := 1) hx hb hr (fun t ht hW => ⟨⟨1, (), rfl, rfl, ⟨by rw [ht]; exact hP9, va_K.moved hW.alike hK9, hD9⟩⟩, hS.F ht⟩) hS.2.2 dL_tag_18
  exact hB.elim

def zs_c_L_tag_no2 : List Cond := .codeWith yL_tag cL_tag 6 (some .int) [(0, 12, 15, 13), (0, 12, 19, 15)] :: (([.code yX7_tag cX7_tag 4 (some .int), .code yX7_isWithin cX7_isWithin 3 (some .boolean), .methodLink RX7 49 yX7_isWithin, .static yX7_isWithin, .initialized RX7, .code yX7_require cX7_require 1 none, .methodLink RX7 53 yX7_require, .static yX7_require, .classLink RX7 292 "java/lang/IllegalArgumentException", .initialized "java/lang/IllegalArgumentException", .methodLink RL 31 yX7_tag, .instanceMethod yX7_tag, .selects RX7 yX7_tag yX7_tag, .classLink RL 13 "java/lang/IllegalArgumentException"] : List Cond) ++ (vx_atS RX7 296 "java/lang/IllegalArgumentException" ["java/lang/RuntimeException", "java/lang/Exception"]).filter goodWord)
set_option maxHeartbeats 4000000 in
set_option maxRecDepth 100000 in
/-- the law's tag, refused -/
theorem c_L_tag_no2 (l : Launch) (hnt : l.stackTraces = false) (dC : Nat → ClassId) (dI : Nat → Nat → Nat) (a0 : Nat) (h0 : Nat) (qm : Nat) (qt : Nat) (qw : Nat) (qc : Nat) (qb : Nat) (qg : Nat) (qo : Nat) (cL : ClassId) (p0 : Int32) (p1 : Int32) (p2 : Int32) (sz : Nat) (hp0 : zw p0 1 3 = 1) (hp1 : zw p1 1 63 = 0) : Met l yL_tag zs_c_L_tag_no2 ({ frames := 8, cells := 1, slots := 6, locals := 125 }) (va_Pc [.ref h0, .int p0, .int p1, .int p2, .ref qo] (fun U => U.heap.size = sz ∧ va_P (dC, dI) vwCl [(h0, .inr (9, [.ref qm, .ref qt, .ref qw, .ref qc, .ref qb, .ref qg, .int 0, .int 0, .int 0, .int 0, .int 0])), (qo, .inl (cL, 1, .inr (.inl (fun _ => 0))))] U.heap ∧ va_K (dC, dI) vwCl [(cL, .long)] U ∧ va_D (fun _ => True) [(h0, .inr (9, [.ref qm, .ref qt, .ref qw, .ref qc, .ref qb, .ref qg, .int 0, .int 0, .int 0, .int 0, .int 0])), (qo, .inl (cL, 1, .inr (.inl (fun _ => 0))))] ∧ zB a0 (va_A [(h0, .inr (9, [.ref qm, .ref qt, .ref qw, .ref qc, .ref qb, .ref qg, .int 0, .int 0, .int 0, .int 0, .int 0])), (qo, .inl (cL, 1, .inr (.inl (fun _ => 0))))] sz) U U.heap)) (va_Qi (fun (r : Int32) (_ : Unit) => r = 1) (fun _ t => va_P (dC, dI) vwCl [] t.heap ∧ va_K (dC, dI) vwCl [] t ∧ va_D (va_A [(h0, .inr (9, [.ref qm, .ref qt, .ref qw, .ref qc, .ref qb, .ref qg, .int 0, .int 0, .int 0, .int 0, .int 0])), (qo, .inl (cL, 1, .inr (.inl (fun _ => 0))))] sz) []) (va_A [(h0, .inr (9, [.ref qm, .ref qt, .ref qw, .ref qc, .ref qb, .ref qg, .int 0, .int 0, .int 0, .int 0, .int 0])), (qo, .inl (cL, 1, .inr (.inl (fun _ => 0))))] sz)) 1 6 (va_A [(h0, .inr (9, [.ref qm, .ref qt, .ref qw, .ref qc, .ref qb, .ref qg, .int 0, .int 0, .int 0, .int 0, .int 0])), (qo, .inl (cL, 1, .inr (.inl (fun _ => 0))))] sz) := by
  refine va_MetW (cc := cL_tag) (maxL := 6) (ret := (some .int)) (hh := [(0, 12, 15, 13), (0, 12, 19, 15)]) (by decide) rfl ?_
  intro p e s m args below meth c s₁ B hml hv
  obtain ⟨rfl, hsz, hP, hK, hD0, hZ⟩ := hv
  have hx := B.exec
  have hb := B.bytes
  have hr := B.returns
  have hts := atoms_spec (ws := zs_c_L_tag_no2) B.pre
  have hown : s.vm.findClass RL = some m.cls := findClass_of_methodNamed B.named
  have hlocks := B.notSynchronized
  subst hsz
  have hD := hD0.self (sz := s.heap.size)
  generalize hAe : va_A [(h0, .inr (9, [.ref qm, .ref qt, .ref qw, .ref qc, .ref qb, .ref qg, .int 0, .int 0, .int 0, .int 0, .int 0])), (qo, .inl (cL, 1, .inr (.inl (fun _ => 0))))] s.heap.size = A at hD hZ ⊢
  have hA : ∀ q : Nat, s.heap.size ≤ q → A q := fun q h => by rw [← hAe]; exact Or.inr h
  have hS : va_S A s.heap s.heap [] := va_S.rf
  have hl := lv_entry ([.ref h0, .int p0, .int p1, .int p2, .ref qo]) (n := 6) (Nat.le_of_ble_eq_true rfl)
  rw [lg_entry_eq]
  generalize (lg_sl ([.ref h0, .int p0, .int p1, .int p2, .ref qo]) ++ List.replicate (6 - (lg_sl ([.ref h0, .int p0, .int p1, .int p2, .ref qo])).length) Slot.unset).toArray = ls at hl ⊢
  have hl : lv_has ls 6 [(0, .ref h0), (1, .int p0), (2, .int p1), (3, .int p2), (4, .ref qo)] := hl
  refine lv_aload hx hb dL_tag_0 (lv_at hl 4 rfl) ?_
  refine lv_iconst (v := 0) hx hb dL_tag_2 (by decide) ?_
  refine lv_aload_n hx hb dL_tag_3 rfl (lv_at hl 0 rfl) ?_
  refine lv_iload_n hx hb dL_tag_4 rfl (lv_at hl 1 rfl) ?_
  refine lv_iload_n hx hb dL_tag_5 rfl (lv_at hl 2 rfl) ?_
  refine lv_iload_n hx hb dL_tag_6 rfl (lv_at hl 3 rfl) ?_
  have hPc := hP.sub (ws' := [(h0, .inr (9, [.ref qm, .ref qt, .ref qw, .ref qc, .ref qb, .ref qg, .int 0, .int 0, .int 0, .int 0, .int 0]))]) [0] rfl
  have hDc := hD.sub (ws' := [(h0, .inr (9, [.ref qm, .ref qt, .ref qw, .ref qc, .ref qb, .ref qg, .int 0, .int 0, .int 0, .int 0, .int 0]))]) [0] (by decide) rfl
  have hKc := hK.sub (tys' := []) [] rfl
  have hFc := va_free (wc := [(h0, .inr (9, [.ref qm, .ref qt, .ref qw, .ref qc, .ref qb, .ref qg, .int 0, .int 0, .int 0, .int 0, .int 0]))]) hD hS hA [0] rfl
  have hZc := ((hZ.kept hS.2.1).narrow hFc)
  refine vx_calli (vx_runV (As := [.int p0, .int p1, .int p2]) (rest := [.int 0, .ref qo]) ⟨hx, hb, hml, hown, hts⟩ (c_X7_tag_no2 l hnt dC dI a0 h0 qm qt qw qc qb qg p0 p1 p2 s.heap.size (by first | assumption | decide) (by first | assumption | decide)) (cwV 3 hts (goodIn_of _ (by decide +kernel)) rfl rfl rfl (by decide +kernel) ⟨Nat.le_of_ble_eq_true rfl, Nat.le_of_ble_eq_true rfl⟩) ⟨fun a U g mk q => by obtain ⟨q0, q1, qP, qK, qD, qZ⟩ := q; exact ⟨q0, q1, qP, va_K.moved (u := U) (U := U.calling g mk a) (Vm.Alike.refl U.vm) qK, qD, qZ.call⟩, va_recv hKc hPc (ci := 9) (q0 := 0) rfl rfl, fun U hU hW => ⟨rfl, by rw [hU], by rw [hU]; exact hPc, va_K.moved hW.alike hKc, hDc.weaken (fun _ _ _ _ => trivial), by rw [hU]; exact hZc.warm hW⟩⟩ rfl rfl hl.1 rfl (lv_room (Nat.le_of_ble_eq_true rfl)) dL_tag_7 ⟨Nat.le_of_ble_eq_true rfl, Nat.le_of_ble_eq_true rfl⟩) hS (fun q _ h => hFc q h) hFc (fun q _ h => hFc q h) (fun E ce q9 u t H1 locs ht hvm hw hB hz1 hk1 hS hce hcv hcl => ?_) (fun r_1 u t H1 locs ht hvm hw hB hz1 hk1 hS => ?_)
  · obtain rfl := hB
    obtain ⟨hP, hD⟩ := va_join (D := (dC, dI)) (cl := vwCl) (wr := [(qo, .inl (cL, 1, .inr (.inl (fun _ => 0))))]) (w1 := []) hP hD [0] [1] rfl rfl (by decide) (by decide) hk1 hFc (fun k q h => by simp at h) ⟨fun i j p q h => by simp at h, fun k q h => by simp at h⟩
    refine vx_catch hown [] ⟨0, 12, 15, 13⟩ (tableOf [(0, 12, 15, 13), (0, 12, 19, 15)]).tail ((vx_table (x := yL_tag) B (hts (.codeWith yL_tag cL_tag 6 (some .int) [(0, 12, 15, 13), (0, 12, 19, 15)]) (by decide +kernel))).trans rfl) (fun z h => by simp at h) (by decide) (by decide) (hts (.classLink RL 13 "java/lang/IllegalArgumentException") (by decide +kernel)) (zz_cast (hts (.instantiable "java/lang/IllegalArgumentException" 6) (by decide +kernel))) hce hcv hcl ?_
    generalize H1 = H at hP hS ⊢
    have hP : va_P (dC, dI) vwCl [(qo, .inl (cL, 1, .inr (.inl (fun _ => 0))))] H := hP
    have hD : va_D A [(qo, .inl (cL, 1, .inr (.inl (fun _ => 0))))] := hD
    refine W.widen (k := 1) (n := 6) (Nat.le_of_ble_eq_true rfl) (Nat.le_of_ble_eq_true rfl) ?_
    refine lv_astore (lv' := [(5, .ref q9), (0, .ref h0), (1, .int p0), (2, .int p1), (3, .int p2), (4, .ref qo)]) hx hb dL_tag_15 hl (by decide) rfl (fun ls hl => ?_)
    refine lv_iconst (v := 1) hx hb dL_tag_17 (by decide) ?_
    have hP9 := hP.sub (ws' := []) [] rfl
    have hD9 := hD.sub (ws' := []) [] (by decide) rfl
    have hK9 := hK.sub (tys' := []) [] rfl
    refine W.widen (k := 1) (n := 6) (Nat.le_of_ble_eq_true rfl) (Nat.le_of_ble_eq_true rfl) ?_
    exact W.iret (v := 1) hx hb hr (fun t ht hW => ⟨⟨1, (), rfl, rfl, ⟨by rw [ht]; exact hP9, va_K.moved hW.alike hK9, hD9⟩⟩, hS.F ht⟩) hS.2.2 dL_tag_18
  exact hB.elim

def zs_c_L_tag_no3 : List Cond := .codeWith yL_tag cL_tag 6 (some .int) [(0, 12, 15, 13), (0, 12, 19, 15)] :: (([.code yX7_tag cX7_tag 4 (some .int), .code yX7_isWithin cX7_isWithin 3 (some .boolean), .methodLink RX7 49 yX7_isWithin, .static yX7_isWithin, .initialized RX7, .code yX7_require cX7_require 1 none, .methodLink RX7 53 yX7_require, .static yX7_require, .classLink RX7 292 "java/lang/IllegalArgumentException", .initialized "java/lang/IllegalArgumentException", .methodLink RL 31 yX7_tag, .instanceMethod yX7_tag, .selects RX7 yX7_tag yX7_tag, .classLink RL 13 "java/lang/IllegalArgumentException"] : List Cond) ++ (vx_atS RX7 296 "java/lang/IllegalArgumentException" ["java/lang/RuntimeException", "java/lang/Exception"]).filter goodWord)
set_option maxHeartbeats 4000000 in
set_option maxRecDepth 100000 in
/-- the law's tag, refused -/
theorem c_L_tag_no3 (l : Launch) (hnt : l.stackTraces = false) (dC : Nat → ClassId) (dI : Nat → Nat → Nat) (a0 : Nat) (h0 : Nat) (qm : Nat) (qt : Nat) (qw : Nat) (qc : Nat) (qb : Nat) (qg : Nat) (qo : Nat) (cL : ClassId) (p0 : Int32) (p1 : Int32) (p2 : Int32) (sz : Nat) (hp0 : zw p0 1 3 = 1) (hp1 : zw p1 1 63 = 1) (hp2 : zw p2 1 63 = 0) : Met l yL_tag zs_c_L_tag_no3 ({ frames := 8, cells := 1, slots := 6, locals := 125 }) (va_Pc [.ref h0, .int p0, .int p1, .int p2, .ref qo] (fun U => U.heap.size = sz ∧ va_P (dC, dI) vwCl [(h0, .inr (9, [.ref qm, .ref qt, .ref qw, .ref qc, .ref qb, .ref qg, .int 0, .int 0, .int 0, .int 0, .int 0])), (qo, .inl (cL, 1, .inr (.inl (fun _ => 0))))] U.heap ∧ va_K (dC, dI) vwCl [(cL, .long)] U ∧ va_D (fun _ => True) [(h0, .inr (9, [.ref qm, .ref qt, .ref qw, .ref qc, .ref qb, .ref qg, .int 0, .int 0, .int 0, .int 0, .int 0])), (qo, .inl (cL, 1, .inr (.inl (fun _ => 0))))] ∧ zB a0 (va_A [(h0, .inr (9, [.ref qm, .ref qt, .ref qw, .ref qc, .ref qb, .ref qg, .int 0, .int 0, .int 0, .int 0, .int 0])), (qo, .inl (cL, 1, .inr (.inl (fun _ => 0))))] sz) U U.heap)) (va_Qi (fun (r : Int32) (_ : Unit) => r = 1) (fun _ t => va_P (dC, dI) vwCl [] t.heap ∧ va_K (dC, dI) vwCl [] t ∧ va_D (va_A [(h0, .inr (9, [.ref qm, .ref qt, .ref qw, .ref qc, .ref qb, .ref qg, .int 0, .int 0, .int 0, .int 0, .int 0])), (qo, .inl (cL, 1, .inr (.inl (fun _ => 0))))] sz) []) (va_A [(h0, .inr (9, [.ref qm, .ref qt, .ref qw, .ref qc, .ref qb, .ref qg, .int 0, .int 0, .int 0, .int 0, .int 0])), (qo, .inl (cL, 1, .inr (.inl (fun _ => 0))))] sz)) 1 6 (va_A [(h0, .inr (9, [.ref qm, .ref qt, .ref qw, .ref qc, .ref qb, .ref qg, .int 0, .int 0, .int 0, .int 0, .int 0])), (qo, .inl (cL, 1, .inr (.inl (fun _ => 0))))] sz) := by
  refine va_MetW (cc := cL_tag) (maxL := 6) (ret := (some .int)) (hh := [(0, 12, 15, 13), (0, 12, 19, 15)]) (by decide) rfl ?_
  intro p e s m args below meth c s₁ B hml hv
  obtain ⟨rfl, hsz, hP, hK, hD0, hZ⟩ := hv
  have hx := B.exec
  have hb := B.bytes
  have hr := B.returns
  have hts := atoms_spec (ws := zs_c_L_tag_no3) B.pre
  have hown : s.vm.findClass RL = some m.cls := findClass_of_methodNamed B.named
  have hlocks := B.notSynchronized
  subst hsz
  have hD := hD0.self (sz := s.heap.size)
  generalize hAe : va_A [(h0, .inr (9, [.ref qm, .ref qt, .ref qw, .ref qc, .ref qb, .ref qg, .int 0, .int 0, .int 0, .int 0, .int 0])), (qo, .inl (cL, 1, .inr (.inl (fun _ => 0))))] s.heap.size = A at hD hZ ⊢
  have hA : ∀ q : Nat, s.heap.size ≤ q → A q := fun q h => by rw [← hAe]; exact Or.inr h
  have hS : va_S A s.heap s.heap [] := va_S.rf
  have hl := lv_entry ([.ref h0, .int p0, .int p1, .int p2, .ref qo]) (n := 6) (Nat.le_of_ble_eq_true rfl)
  rw [lg_entry_eq]
  generalize (lg_sl ([.ref h0, .int p0, .int p1, .int p2, .ref qo]) ++ List.replicate (6 - (lg_sl ([.ref h0, .int p0, .int p1, .int p2, .ref qo])).length) Slot.unset).toArray = ls at hl ⊢
  have hl : lv_has ls 6 [(0, .ref h0), (1, .int p0), (2, .int p1), (3, .int p2), (4, .ref qo)] := hl
  refine lv_aload hx hb dL_tag_0 (lv_at hl 4 rfl) ?_
  refine lv_iconst (v := 0) hx hb dL_tag_2 (by decide) ?_
  refine lv_aload_n hx hb dL_tag_3 rfl (lv_at hl 0 rfl) ?_
  refine lv_iload_n hx hb dL_tag_4 rfl (lv_at hl 1 rfl) ?_
  refine lv_iload_n hx hb dL_tag_5 rfl (lv_at hl 2 rfl) ?_
  refine lv_iload_n hx hb dL_tag_6 rfl (lv_at hl 3 rfl) ?_
  have hPc := hP.sub (ws' := [(h0, .inr (9, [.ref qm, .ref qt, .ref qw, .ref qc, .ref qb, .ref qg, .int 0, .int 0, .int 0, .int 0, .int 0]))]) [0] rfl
  have hDc := hD.sub (ws' := [(h0, .inr (9, [.ref qm, .ref qt, .ref qw, .ref qc, .ref qb, .ref qg, .int 0, .int 0, .int 0, .int 0, .int 0]))]) [0] (by decide) rfl
  have hKc := hK.sub (tys' := []) [] rfl
  have hFc := va_free (wc := [(h0, .inr (9, [.ref qm, .ref qt, .ref qw, .ref qc, .ref qb, .ref qg, .int 0, .int 0, .int 0, .int 0, .int 0]))]) hD hS hA [0] rfl
  have hZc := ((hZ.kept hS.2.1).narrow hFc)
  refine vx_calli (vx_runV (As := [.int p0, .int p1, .int p2]) (rest := [.int 0, .ref qo]) ⟨hx, hb, hml, hown, hts⟩ (c_X7_tag_no3 l hnt dC dI a0 h0 qm qt qw qc qb qg p0 p1 p2 s.heap.size (by first | assumption | decide) (by first | assumption | decide) (by first | assumption | decide)) (cwV 3 hts (goodIn_of _ (by decide +kernel)) rfl rfl rfl (by decide +kernel) ⟨Nat.le_of_ble_eq_true rfl, Nat.le_of_ble_eq_true rfl⟩) ⟨fun a U g mk q => by obtain ⟨q0, q1, qP, qK, qD, qZ⟩ := q; exact ⟨q0, q1, qP, va_K.moved (u := U) (U := U.calling g mk a) (Vm.Alike.refl U.vm) qK, qD, qZ.call⟩, va_recv hKc hPc (ci := 9) (q0 := 0) rfl rfl, fun U hU hW => ⟨rfl, by rw [hU], by rw [hU]; exact hPc, va_K.moved hW.alike hKc, hDc.weaken (fun _ _ _ _ => trivial), by rw [hU]; exact hZc.warm hW⟩⟩ rfl rfl hl.1 rfl (lv_room (Nat.le_of_ble_eq_true rfl)) dL_tag_7 ⟨Nat.le_of_ble_eq_true rfl, Nat.le_of_ble_eq_true rfl⟩) hS (fun q _ h => hFc q h) hFc (fun q _ h => hFc q h) (fun E ce q9 u t H1 locs ht hvm hw hB hz1 hk1 hS hce hcv hcl => ?_) (fun r_1 u t H1 locs ht hvm hw hB hz1 hk1 hS => ?_)
  · obtain rfl := hB
    obtain ⟨hP, hD⟩ := va_join (D := (dC, dI)) (cl := vwCl) (wr := [(qo, .inl (cL, 1, .inr (.inl (fun _ => 0))))]) (w1 := []) hP hD [0] [1] rfl rfl (by decide) (by decide) hk1 hFc (fun k q h => by simp at h) ⟨fun i j p q h => by simp at h, fun k q h => by simp at h⟩
    refine vx_catch hown [] ⟨0, 12, 15, 13⟩ (tableOf [(0, 12, 15, 13), (0, 12, 19, 15)]).tail ((vx_table (x := yL_tag) B (hts (.codeWith yL_tag cL_tag 6 (some .int) [(0, 12, 15, 13), (0, 12, 19, 15)]) (by decide +kernel))).trans rfl) (fun z h => by simp at h) (by decide) (by decide) (hts (.classLink RL 13 "java/lang/IllegalArgumentException") (by decide +kernel)) (zz_cast (hts (.instantiable "java/lang/IllegalArgumentException" 6) (by decide +kernel))) hce hcv hcl ?_
    generalize H1 = H at hP hS ⊢
    have hP : va_P (dC, dI) vwCl [(qo, .inl (cL, 1, .inr (.inl (fun _ => 0))))] H := hP
    have hD : va_D A [(qo, .inl (cL, 1, .inr (.inl (fun _ => 0))))] := hD
    refine W.widen (k := 1) (n := 6) (Nat.le_of_ble_eq_true rfl) (Nat.le_of_ble_eq_true rfl) ?_
    refine lv_astore (lv' := [(5, .ref q9), (0, .ref h0), (1, .int p0), (2, .int p1), (3, .int p2), (4, .ref qo)]) hx hb dL_tag_15 hl (by decide) rfl (fun ls hl => ?_)
    refine lv_iconst (v := 1) hx hb dL_tag_17 (by decide) ?_
    have hP9 := hP.sub (ws' := []) [] rfl
    have hD9 := hD.sub (ws' := []) [] (by decide) rfl
    have hK9 := hK.sub (tys' := []) [] rfl
    refine W.widen (k := 1) (n := 6) (Nat.le_of_ble_eq_true rfl) (Nat.le_of_ble_eq_true rfl) ?_
    exact W.iret (v := 1) hx hb hr (fun t ht hW => ⟨⟨1, (), rfl, rfl, ⟨by rw [ht]; exact hP9, va_K.moved hW.alike hK9, hD9⟩⟩, hS.F ht⟩) hS.2.2 dL_tag_18
  exact hB.elim

def zs_c_L_doubt_ok : List Cond := .codeWith yL_doubt cL_doubt 4 (some .int) [(0, 9, 12, 13)] :: (([.code yX7_doubt cX7_doubt 5 (some .int), .code yX7_isWithin cX7_isWithin 3 (some .boolean), .methodLink RX7 49 yX7_isWithin, .static yX7_isWithin, .initialized RX7, .code yX7_require cX7_require 1 none, .methodLink RX7 53 yX7_require, .static yX7_require, .fieldLink RX7 148 "Haltingale" "machineCount" "I", .methodLink RL 39 yX7_doubt, .instanceMethod yX7_doubt, .selects RX7 yX7_doubt yX7_doubt] : List Cond) ++ wsX70)
set_option maxHeartbeats 4000000 in
set_option maxRecDepth 100000 in
/-- the law's doubt -/
theorem c_L_doubt_ok (l : Launch) (hnt : l.stackTraces = false) (dC : Nat → ClassId) (dI : Nat → Nat → Nat) (a0 : Nat) (h0 : Nat) (qm : Nat) (qt : Nat) (qw : Nat) (qc : Nat) (qb : Nat) (qg : Nat) (qo : Nat) (cL : ClassId) (p0 : Int32) (sz : Nat) (hp : zw p0 0 3 = 1) : Met l yL_doubt zs_c_L_doubt_ok ({ frames := 2, cells := 0, slots := 0, locals := 46 }) (va_Pc [.ref h0, .int p0, .ref qo] (fun U => U.heap.size = sz ∧ va_P (dC, dI) vwCl [(h0, .inr (9, [.ref qm, .ref qt, .ref qw, .ref qc, .ref qb, .ref qg, .int 0, .int 0, .int 0, .int 0, .int 0])), (qo, .inl (cL, 1, .inr (.inl (fun _ => 0))))] U.heap ∧ va_K (dC, dI) vwCl [(cL, .long)] U ∧ va_D (fun _ => True) [(h0, .inr (9, [.ref qm, .ref qt, .ref qw, .ref qc, .ref qb, .ref qg, .int 0, .int 0, .int 0, .int 0, .int 0])), (qo, .inl (cL, 1, .inr (.inl (fun _ => 0))))] ∧ zB a0 (va_A [(h0, .inr (9, [.ref qm, .ref qt, .ref qw, .ref qc, .ref qb, .ref qg, .int 0, .int 0, .int 0, .int 0, .int 0])), (qo, .inl (cL, 1, .inr (.inl (fun _ => 0))))] sz) U U.heap)) (va_Qi (fun (r : Int32) (_ : Unit) => r = 0) (fun _ t => va_P (dC, dI) vwCl [(qo, .inl (cL, 1, .inr (.inl (vp_updL (fun _ => 0) ((0 : Int32).toNatClampNeg) 0))))] t.heap ∧ va_K (dC, dI) vwCl [(cL, .long)] t ∧ va_D (va_A [(h0, .inr (9, [.ref qm, .ref qt, .ref qw, .ref qc, .ref qb, .ref qg, .int 0, .int 0, .int 0, .int 0, .int 0])), (qo, .inl (cL, 1, .inr (.inl (fun _ => 0))))] sz) [(qo, .inl (cL, 1, .inr (.inl (vp_updL (fun _ => 0) ((0 : Int32).toNatClampNeg) 0))))]) (va_A [(h0, .inr (9, [.ref qm, .ref qt, .ref qw, .ref qc, .ref qb, .ref qg, .int 0, .int 0, .int 0, .int 0, .int 0])), (qo, .inl (cL, 1, .inr (.inl (fun _ => 0))))] sz)) 0 0 (va_A [(h0, .inr (9, [.ref qm, .ref qt, .ref qw, .ref qc, .ref qb, .ref qg, .int 0, .int 0, .int 0, .int 0, .int 0])), (qo, .inl (cL, 1, .inr (.inl (fun _ => 0))))] sz) := by
  refine va_MetW (cc := cL_doubt) (maxL := 4) (ret := (some .int)) (hh := [(0, 9, 12, 13)]) (by decide) rfl ?_
  intro p e s m args below meth c s₁ B hml hv
  obtain ⟨rfl, hsz, hP, hK, hD0, hZ⟩ := hv
  have hx := B.exec
  have hb := B.bytes
  have hr := B.returns
  have hts := atoms_spec (ws := zs_c_L_doubt_ok) B.pre
  have hown : s.vm.findClass RL = some m.cls := findClass_of_methodNamed B.named
  have hlocks := B.notSynchronized
  subst hsz
  have hD := hD0.self (sz := s.heap.size)
  generalize hAe : va_A [(h0, .inr (9, [.ref qm, .ref qt, .ref qw, .ref qc, .ref qb, .ref qg, .int 0, .int 0, .int 0, .int 0, .int 0])), (qo, .inl (cL, 1, .inr (.inl (fun _ => 0))))] s.heap.size = A at hD hZ ⊢
  have hA : ∀ q : Nat, s.heap.size ≤ q → A q := fun q h => by rw [← hAe]; exact Or.inr h
  have hS : va_S A s.heap s.heap [] := va_S.rf
  have hl := lv_entry ([.ref h0, .int p0, .ref qo]) (n := 4) (Nat.le_of_ble_eq_true rfl)
  rw [lg_entry_eq]
  generalize (lg_sl ([.ref h0, .int p0, .ref qo]) ++ List.replicate (4 - (lg_sl ([.ref h0, .int p0, .ref qo])).length) Slot.unset).toArray = ls at hl ⊢
  have hl : lv_has ls 4 [(0, .ref h0), (1, .int p0), (2, .ref qo)] := hl
  refine lv_aload_n hx hb dL_doubt_0 rfl (lv_at hl 2 rfl) ?_
  refine lv_iconst (v := 0) hx hb dL_doubt_1 (by decide) ?_
  refine lv_aload_n hx hb dL_doubt_2 rfl (lv_at hl 0 rfl) ?_
  refine lv_iload_n hx hb dL_doubt_3 rfl (lv_at hl 1 rfl) ?_
  have hPc := hP.sub (ws' := [(h0, .inr (9, [.ref qm, .ref qt, .ref qw, .ref qc, .ref qb, .ref qg, .int 0, .int 0, .int 0, .int 0, .int 0]))]) [0] rfl
  have hDc := hD.sub (ws' := [(h0, .inr (9, [.ref qm, .ref qt, .ref qw, .ref qc, .ref qb, .ref qg, .int 0, .int 0, .int 0, .int 0, .int 0]))]) [0] (by decide) rfl
  have hKc := hK.sub (tys' := []) [] rfl
  have hFc := va_free (wc := [(h0, .inr (9, [.ref qm, .ref qt, .ref qw, .ref qc, .ref qb, .ref qg, .int 0, .int 0, .int 0, .int 0, .int 0]))]) hD hS hA [0] rfl
  have hZc := ((hZ.kept hS.2.1).narrow hFc)
  refine va_calli (va_runV (As := [.int p0]) (rest := [.int 0, .ref qo]) ⟨hx, hb, hml, hown, hts⟩ (c_X7_doubt_ok l hnt dC dI a0 h0 qm qt qw qc qb qg p0 s.heap.size (by first | assumption | decide)) (cwV 1 hts (goodIn_of _ (by decide +kernel)) rfl rfl rfl (by decide +kernel) ⟨Nat.le_of_ble_eq_true rfl, Nat.le_of_ble_eq_true rfl⟩) ⟨fun a U g mk q => by obtain ⟨q0, q1, qP, qK, qD, qZ⟩ := q; exact ⟨q0, q1, qP, va_K.moved (u := U) (U := U.calling g mk a) (Vm.Alike.refl U.vm) qK, qD, qZ.call⟩, va_recv hKc hPc (ci := 9) (q0 := 0) rfl rfl, fun U hU hW => ⟨rfl, by rw [hU], by rw [hU]; exact hPc, va_K.moved hW.alike hKc, hDc.weaken (fun _ _ _ _ => trivial), by rw [hU]; exact hZc.warm hW⟩⟩ rfl rfl hl.1 rfl (lv_room (Nat.le_of_ble_eq_true rfl)) dL_doubt_4 ⟨Nat.le_of_ble_eq_true rfl, Nat.le_of_ble_eq_true rfl⟩) hS (fun q _ h => hFc q h) hFc (fun r_1 u t H1 locs ht hvm hw hB hz1 hk1 hS => ?_)
  obtain ⟨hP1, hK1, hD1⟩ := hB
  rw [ht] at hP1
  have hK1 := va_K.moved hvm.symm hK1
  obtain ⟨hP, hD⟩ := va_join (wr := [(qo, .inl (cL, 1, .inr (.inl (fun _ => 0))))]) (w1 := []) hP hD [0] [1] rfl rfl (by decide) (by decide) hk1 hFc hP1 hD1
  have hK := (hK.sub (tys' := [(cL, .long)]) [0] rfl).app hK1
  generalize H1 = H at hP hS ⊢
  have hP : va_P (dC, dI) vwCl [(qo, .inl (cL, 1, .inr (.inl (fun _ => 0))))] H := hP
  have hD : va_D A [(qo, .inl (cL, 1, .inr (.inl (fun _ => 0))))] := hD
  have hK : va_K (dC, dI) vwCl [(cL, .long)] s := hK
  refine W.widen (k := 0) (n := 0) (Nat.le_of_ble_eq_true rfl) (Nat.le_of_ble_eq_true rfl) ?_
  obtain rfl : r_1 = 0 := hw
  refine lv_i2l (v := 0) hx hb dL_doubt_7 (by decide) ?_
  refine va_last hx hb hK hP hD hS 0 0 rfl rfl (by unfold vp_in; decide) dL_doubt_8 (fun H locs hP hD hS => ?_)
  have hP : va_P (dC, dI) vwCl [(qo, .inl (cL, 1, .inr (.inl (vp_updL (fun _ => 0) ((0 : Int32).toNatClampNeg) 0))))] H := hP
  have hD : va_D A [(qo, .inl (cL, 1, .inr (.inl (vp_updL (fun _ => 0) ((0 : Int32).toNatClampNeg) 0))))] := hD
  refine lv_goto (tgt := 15) hx hb dL_doubt_9 (by decide) ?_
  refine lv_iconst (v := 0) hx hb dL_doubt_15 (by decide) ?_
  have hP9 := hP.sub (ws' := [(qo, .inl (cL, 1, .inr (.inl (vp_updL (fun _ => 0) ((0 : Int32).toNatClampNeg) 0))))]) [0] rfl
  have hD9 := hD.sub (ws' := [(qo, .inl (cL, 1, .inr (.inl (vp_updL (fun _ => 0) ((0 : Int32).toNatClampNeg) 0))))]) [0] (by decide) rfl
  have hK9 := hK.sub (tys' := [(cL, .long)]) [0] rfl
  refine W.widen (k := 0) (n := 0) (Nat.le_of_ble_eq_true rfl) (Nat.le_of_ble_eq_true rfl) ?_
  exact W.iret (v := 0) hx hb hr (fun t ht hW => ⟨⟨0, (), rfl, rfl, ⟨by rw [ht]; exact hP9, va_K.moved hW.alike hK9, hD9⟩⟩, hS.F ht⟩) hS.2.2 dL_doubt_16

def zs_c_L_champion_ok : List Cond := .codeWith yL_champion cL_champion 4 (some .int) [(0, 9, 12, 13)] :: (([.code yX7_champion cX7_champion 7 (some .int), .code yX7_isWithin cX7_isWithin 3 (some .boolean), .methodLink RX7 49 yX7_isWithin, .static yX7_isWithin, .initialized RX7, .code yX7_require cX7_require 1 none, .methodLink RX7 53 yX7_require, .static yX7_require, .fieldLink RX7 148 "Haltingale" "machineCount" "I", .methodLink RL 68 yX7_champion, .instanceMethod yX7_champion, .selects RX7 yX7_champion yX7_champion] : List Cond) ++ wsX70)
set_option maxHeartbeats 4000000 in
set_option maxRecDepth 100000 in
/-- the law's champion -/
theorem c_L_champion_ok (l : Launch) (hnt : l.stackTraces = false) (dC : Nat → ClassId) (dI : Nat → Nat → Nat) (a0 : Nat) (h0 : Nat) (qm : Nat) (qt : Nat) (qw : Nat) (qc : Nat) (qb : Nat) (qg : Nat) (qo : Nat) (cL : ClassId) (p0 : Int32) (sz : Nat) (hp : zw p0 0 1 = 1) : Met l yL_champion zs_c_L_champion_ok ({ frames := 2, cells := 0, slots := 0, locals := 48 }) (va_Pc [.ref h0, .int p0, .ref qo] (fun U => U.heap.size = sz ∧ va_P (dC, dI) vwCl [(h0, .inr (9, [.ref qm, .ref qt, .ref qw, .ref qc, .ref qb, .ref qg, .int 0, .int 0, .int 0, .int 0, .int 0])), (qo, .inl (cL, 1, .inr (.inl (fun _ => 0))))] U.heap ∧ va_K (dC, dI) vwCl [(cL, .long)] U ∧ va_D (fun _ => True) [(h0, .inr (9, [.ref qm, .ref qt, .ref qw, .ref qc, .ref qb, .ref qg, .int 0, .int 0, .int 0, .int 0, .int 0])), (qo, .inl (cL, 1, .inr (.inl (fun _ => 0))))] ∧ zB a0 (va_A [(h0, .inr (9, [.ref qm, .ref qt, .ref qw, .ref qc, .ref qb, .ref qg, .int 0, .int 0, .int 0, .int 0, .int 0])), (qo, .inl (cL, 1, .inr (.inl (fun _ => 0))))] sz) U U.heap)) (va_Qi (fun (r : Int32) (_ : Unit) => r = 0) (fun _ t => va_P (dC, dI) vwCl [(qo, .inl (cL, 1, .inr (.inl (vp_updL (fun _ => 0) ((0 : Int32).toNatClampNeg) (-1)))))] t.heap ∧ va_K (dC, dI) vwCl [(cL, .long)] t ∧ va_D (va_A [(h0, .inr (9, [.ref qm, .ref qt, .ref qw, .ref qc, .ref qb, .ref qg, .int 0, .int 0, .int 0, .int 0, .int 0])), (qo, .inl (cL, 1, .inr (.inl (fun _ => 0))))] sz) [(qo, .inl (cL, 1, .inr (.inl (vp_updL (fun _ => 0) ((0 : Int32).toNatClampNeg) (-1)))))]) (va_A [(h0, .inr (9, [.ref qm, .ref qt, .ref qw, .ref qc, .ref qb, .ref qg, .int 0, .int 0, .int 0, .int 0, .int 0])), (qo, .inl (cL, 1, .inr (.inl (fun _ => 0))))] sz)) 0 0 (va_A [(h0, .inr (9, [.ref qm, .ref qt, .ref qw, .ref qc, .ref qb, .ref qg, .int 0, .int 0, .int 0, .int 0, .int 0])), (qo, .inl (cL, 1, .inr (.inl (fun _ => 0))))] sz) := by
  refine va_MetW (cc := cL_champion) (maxL := 4) (ret := (some .int)) (hh := [(0, 9, 12, 13)]) (by decide) rfl ?_
  intro p e s m args below meth c s₁ B hml hv
  obtain ⟨rfl, hsz, hP, hK, hD0, hZ⟩ := hv
  have hx := B.exec
  have hb := B.bytes
  have hr := B.returns
  have hts := atoms_spec (ws := zs_c_L_champion_ok) B.pre
  have hown : s.vm.findClass RL = some m.cls := findClass_of_methodNamed B.named
  have hlocks := B.notSynchronized
  subst hsz
  have hD := hD0.self (sz := s.heap.size)
  generalize hAe : va_A [(h0, .inr (9, [.ref qm, .ref qt, .ref qw, .ref qc, .ref qb, .ref qg, .int 0, .int 0, .int 0, .int 0, .int 0])), (qo, .inl (cL, 1, .inr (.inl (fun _ => 0))))] s.heap.size = A at hD hZ ⊢
  have hA : ∀ q : Nat, s.heap.size ≤ q → A q := fun q h => by rw [← hAe]; exact Or.inr h
  have hS : va_S A s.heap s.heap [] := va_S.rf
  have hl := lv_entry ([.ref h0, .int p0, .ref qo]) (n := 4) (Nat.le_of_ble_eq_true rfl)
  rw [lg_entry_eq]
  generalize (lg_sl ([.ref h0, .int p0, .ref qo]) ++ List.replicate (4 - (lg_sl ([.ref h0, .int p0, .ref qo])).length) Slot.unset).toArray = ls at hl ⊢
  have hl : lv_has ls 4 [(0, .ref h0), (1, .int p0), (2, .ref qo)] := hl
  refine lv_aload_n hx hb dL_champion_0 rfl (lv_at hl 2 rfl) ?_
  refine lv_iconst (v := 0) hx hb dL_champion_1 (by decide) ?_
  refine lv_aload_n hx hb dL_champion_2 rfl (lv_at hl 0 rfl) ?_
  refine lv_iload_n hx hb dL_champion_3 rfl (lv_at hl 1 rfl) ?_
  have hPc := hP.sub (ws' := [(h0, .inr (9, [.ref qm, .ref qt, .ref qw, .ref qc, .ref qb, .ref qg, .int 0, .int 0, .int 0, .int 0, .int 0]))]) [0] rfl
  have hDc := hD.sub (ws' := [(h0, .inr (9, [.ref qm, .ref qt, .ref qw, .ref qc, .ref qb, .ref qg, .int 0, .int 0, .int 0, .int 0, .int 0]))]) [0] (by decide) rfl
  have hKc := hK.sub (tys' := []) [] rfl
  have hFc := va_free (wc := [(h0, .inr (9, [.ref qm, .ref qt, .ref qw, .ref qc, .ref qb, .ref qg, .int 0, .int 0, .int 0, .int 0, .int 0]))]) hD hS hA [0] rfl
  have hZc := ((hZ.kept hS.2.1).narrow hFc)
  refine va_calli (va_runV (As := [.int p0]) (rest := [.int 0, .ref qo]) ⟨hx, hb, hml, hown, hts⟩ (c_X7_champion_ok l hnt dC dI a0 h0 qm qt qw qc qb qg p0 s.heap.size (by first | assumption | decide)) (cwV 1 hts (goodIn_of _ (by decide +kernel)) rfl rfl rfl (by decide +kernel) ⟨Nat.le_of_ble_eq_true rfl, Nat.le_of_ble_eq_true rfl⟩) ⟨fun a U g mk q => by obtain ⟨q0, q1, qP, qK, qD, qZ⟩ := q; exact ⟨q0, q1, qP, va_K.moved (u := U) (U := U.calling g mk a) (Vm.Alike.refl U.vm) qK, qD, qZ.call⟩, va_recv hKc hPc (ci := 9) (q0 := 0) rfl rfl, fun U hU hW => ⟨rfl, by rw [hU], by rw [hU]; exact hPc, va_K.moved hW.alike hKc, hDc.weaken (fun _ _ _ _ => trivial), by rw [hU]; exact hZc.warm hW⟩⟩ rfl rfl hl.1 rfl (lv_room (Nat.le_of_ble_eq_true rfl)) dL_champion_4 ⟨Nat.le_of_ble_eq_true rfl, Nat.le_of_ble_eq_true rfl⟩) hS (fun q _ h => hFc q h) hFc (fun r_1 u t H1 locs ht hvm hw hB hz1 hk1 hS => ?_)
  obtain ⟨hP1, hK1, hD1⟩ := hB
  rw [ht] at hP1
  have hK1 := va_K.moved hvm.symm hK1
  obtain ⟨hP, hD⟩ := va_join (wr := [(qo, .inl (cL, 1, .inr (.inl (fun _ => 0))))]) (w1 := [(h0, .inr (9, [.ref qm, .ref qt, .ref qw, .ref qc, .ref qb, .ref qg, .int 0, .int 0, .int 0, .int 0, .int 0]))]) hP hD [0] [1] rfl rfl (by decide) (by decide) hk1 hFc hP1 hD1
  have hK := (hK.sub (tys' := [(cL, .long)]) [0] rfl).app hK1
  generalize H1 = H at hP hS ⊢
  have hP : va_P (dC, dI) vwCl [(qo, .inl (cL, 1, .inr (.inl (fun _ => 0)))), (h0, .inr (9, [.ref qm, .ref qt, .ref qw, .ref qc, .ref qb, .ref qg, .int 0, .int 0, .int 0, .int 0, .int 0]))] H := hP
  have hD : va_D A [(qo, .inl (cL, 1, .inr (.inl (fun _ => 0)))), (h0, .inr (9, [.ref qm, .ref qt, .ref qw, .ref qc, .ref qb, .ref qg, .int 0, .int 0, .int 0, .int 0, .int 0]))] := hD
  have hK : va_K (dC, dI) vwCl [(cL, .long)] s := hK
  refine W.widen (k := 0) (n := 0) (Nat.le_of_ble_eq_true rfl) (Nat.le_of_ble_eq_true rfl) ?_
  obtain rfl : r_1 = (-1) := hw
  refine lv_i2l (v := (-1)) hx hb dL_champion_7 (by decide) ?_
  refine va_last hx hb hK hP hD hS 0 0 rfl rfl (by unfold vp_in; decide) dL_champion_8 (fun H locs hP hD hS => ?_)
  have hP : va_P (dC, dI) vwCl [(qo, .inl (cL, 1, .inr (.inl (vp_updL (fun _ => 0) ((0 : Int32).toNatClampNeg) (-1))))), (h0, .inr (9, [.ref qm, .ref qt, .ref qw, .ref qc, .ref qb, .ref qg, .int 0, .int 0, .int 0, .int 0, .int 0]))] H := hP
  have hD : va_D A [(qo, .inl (cL, 1, .inr (.inl (vp_updL (fun _ => 0) ((0 : Int32).toNatClampNeg) (-1))))), (h0, .inr (9, [.ref qm, .ref qt, .ref qw, .ref qc, .ref qb, .ref qg, .int 0, .int 0, .int 0, .int 0, .int 0]))] := hD
  refine lv_goto (tgt := 15) hx hb dL_champion_9 (by decide) ?_
  refine lv_iconst (v := 0) hx hb dL_champion_15 (by decide) ?_
  have hP9 := hP.sub (ws' := [(qo, .inl (cL, 1, .inr (.inl (vp_updL (fun _ => 0) ((0 : Int32).toNatClampNeg) (-1)))))]) [0] rfl
  have hD9 := hD.sub (ws' := [(qo, .inl (cL, 1, .inr (.inl (vp_updL (fun _ => 0) ((0 : Int32).toNatClampNeg) (-1)))))]) [0] (by decide) rfl
  have hK9 := hK.sub (tys' := [(cL, .long)]) [0] rfl
  refine W.widen (k := 0) (n := 0) (Nat.le_of_ble_eq_true rfl) (Nat.le_of_ble_eq_true rfl) ?_
  exact W.iret (v := 0) hx hb hr (fun t ht hW => ⟨⟨0, (), rfl, rfl, ⟨by rw [ht]; exact hP9, va_K.moved hW.alike hK9, hD9⟩⟩, hS.F ht⟩) hS.2.2 dL_champion_16

def zs_c_L_many_0 : List Cond := .codeWith yL_many cL_many 4 (some .int) [(0, 9, 12, 13)] :: (([.code yX7_many cX7_many 2 (some .int), .code yX7_isWithin cX7_isWithin 3 (some .boolean), .methodLink RX7 49 yX7_isWithin, .static yX7_isWithin, .initialized RX7, .code yX7_require cX7_require 1 none, .methodLink RX7 53 yX7_require, .static yX7_require, .fieldLink RX7 148 "Haltingale" "machineCount" "I", .methodLink RL 74 yX7_many, .instanceMethod yX7_many, .selects RX7 yX7_many yX7_many] : List Cond) ++ wsX70)
set_option maxHeartbeats 4000000 in
set_option maxRecDepth 100000 in
/-- the law's many -/
theorem c_L_many_0 (l : Launch) (hnt : l.stackTraces = false) (dC : Nat → ClassId) (dI : Nat → Nat → Nat) (a0 : Nat) (h0 : Nat) (qm : Nat) (qt : Nat) (qw : Nat) (qc : Nat) (qb : Nat) (qg : Nat) (qo : Nat) (cL : ClassId) (sz : Nat)  : Met l yL_many zs_c_L_many_0 ({ frames := 2, cells := 0, slots := 0, locals := 43 }) (va_Pc [.ref h0, .int 0, .ref qo] (fun U => U.heap.size = sz ∧ va_P (dC, dI) vwCl [(h0, .inr (9, [.ref qm, .ref qt, .ref qw, .ref qc, .ref qb, .ref qg, .int 0, .int 0, .int 0, .int 0, .int 0])), (qo, .inl (cL, 1, .inr (.inl (fun _ => 0))))] U.heap ∧ va_K (dC, dI) vwCl [(cL, .long)] U ∧ va_D (fun _ => True) [(h0, .inr (9, [.ref qm, .ref qt, .ref qw, .ref qc, .ref qb, .ref qg, .int 0, .int 0, .int 0, .int 0, .int 0])), (qo, .inl (cL, 1, .inr (.inl (fun _ => 0))))] ∧ zB a0 (va_A [(h0, .inr (9, [.ref qm, .ref qt, .ref qw, .ref qc, .ref qb, .ref qg, .int 0, .int 0, .int 0, .int 0, .int 0])), (qo, .inl (cL, 1, .inr (.inl (fun _ => 0))))] sz) U U.heap)) (va_Qi (fun (r : Int32) (_ : Unit) => r = 0) (fun _ t => va_P (dC, dI) vwCl [(qo, .inl (cL, 1, .inr (.inl (vp_updL (fun _ => 0) ((0 : Int32).toNatClampNeg) 0))))] t.heap ∧ va_K (dC, dI) vwCl [(cL, .long)] t ∧ va_D (va_A [(h0, .inr (9, [.ref qm, .ref qt, .ref qw, .ref qc, .ref qb, .ref qg, .int 0, .int 0, .int 0, .int 0, .int 0])), (qo, .inl (cL, 1, .inr (.inl (fun _ => 0))))] sz) [(qo, .inl (cL, 1, .inr (.inl (vp_updL (fun _ => 0) ((0 : Int32).toNatClampNeg) 0))))]) (va_A [(h0, .inr (9, [.ref qm, .ref qt, .ref qw, .ref qc, .ref qb, .ref qg, .int 0, .int 0, .int 0, .int 0, .int 0])), (qo, .inl (cL, 1, .inr (.inl (fun _ => 0))))] sz)) 0 0 (va_A [(h0, .inr (9, [.ref qm, .ref qt, .ref qw, .ref qc, .ref qb, .ref qg, .int 0, .int 0, .int 0, .int 0, .int 0])), (qo, .inl (cL, 1, .inr (.inl (fun _ => 0))))] sz) := by
  refine va_MetW (cc := cL_many) (maxL := 4) (ret := (some .int)) (hh := [(0, 9, 12, 13)]) (by decide) rfl ?_
  intro p e s m args below meth c s₁ B hml hv
  obtain ⟨rfl, hsz, hP, hK, hD0, hZ⟩ := hv
  have hx := B.exec
  have hb := B.bytes
  have hr := B.returns
  have hts := atoms_spec (ws := zs_c_L_many_0) B.pre
  have hown : s.vm.findClass RL = some m.cls := findClass_of_methodNamed B.named
  have hlocks := B.notSynchronized
  subst hsz
  have hD := hD0.self (sz := s.heap.size)
  generalize hAe : va_A [(h0, .inr (9, [.ref qm, .ref qt, .ref qw, .ref qc, .ref qb, .ref qg, .int 0, .int 0, .int 0, .int 0, .int 0])), (qo, .inl (cL, 1, .inr (.inl (fun _ => 0))))] s.heap.size = A at hD hZ ⊢
  have hA : ∀ q : Nat, s.heap.size ≤ q → A q := fun q h => by rw [← hAe]; exact Or.inr h
  have hS : va_S A s.heap s.heap [] := va_S.rf
  have hl := lv_entry ([.ref h0, .int 0, .ref qo]) (n := 4) (Nat.le_of_ble_eq_true rfl)
  rw [lg_entry_eq]
  generalize (lg_sl ([.ref h0, .int 0, .ref qo]) ++ List.replicate (4 - (lg_sl ([.ref h0, .int 0, .ref qo])).length) Slot.unset).toArray = ls at hl ⊢
  have hl : lv_has ls 4 [(0, .ref h0), (1, .int 0), (2, .ref qo)] := hl
  refine lv_aload_n hx hb dL_many_0 rfl (lv_at hl 2 rfl) ?_
  refine lv_iconst (v := 0) hx hb dL_many_1 (by decide) ?_
  refine lv_aload_n hx hb dL_many_2 rfl (lv_at hl 0 rfl) ?_
  refine lv_iload_n hx hb dL_many_3 rfl (lv_at hl 1 rfl) ?_
  have hPc := hP.sub (ws' := [(h0, .inr (9, [.ref qm, .ref qt, .ref qw, .ref qc, .ref qb, .ref qg, .int 0, .int 0, .int 0, .int 0, .int 0]))]) [0] rfl
  have hDc := hD.sub (ws' := [(h0, .inr (9, [.ref qm, .ref qt, .ref qw, .ref qc, .ref qb, .ref qg, .int 0, .int 0, .int 0, .int 0, .int 0]))]) [0] (by decide) rfl
  have hKc := hK.sub (tys' := []) [] rfl
  have hFc := va_free (wc := [(h0, .inr (9, [.ref qm, .ref qt, .ref qw, .ref qc, .ref qb, .ref qg, .int 0, .int 0, .int 0, .int 0, .int 0]))]) hD hS hA [0] rfl
  have hZc := ((hZ.kept hS.2.1).narrow hFc)
  refine va_calli (va_runV (As := [.int 0]) (rest := [.int 0, .ref qo]) ⟨hx, hb, hml, hown, hts⟩ (c_X7_many_0 l hnt dC dI a0 h0 qm qt qw qc qb qg s.heap.size ) (cwV 1 hts (goodIn_of _ (by decide +kernel)) rfl rfl rfl (by decide +kernel) ⟨Nat.le_of_ble_eq_true rfl, Nat.le_of_ble_eq_true rfl⟩) ⟨fun a U g mk q => by obtain ⟨q0, q1, qP, qK, qD, qZ⟩ := q; exact ⟨q0, q1, qP, va_K.moved (u := U) (U := U.calling g mk a) (Vm.Alike.refl U.vm) qK, qD, qZ.call⟩, va_recv hKc hPc (ci := 9) (q0 := 0) rfl rfl, fun U hU hW => ⟨rfl, by rw [hU], by rw [hU]; exact hPc, va_K.moved hW.alike hKc, hDc.weaken (fun _ _ _ _ => trivial), by rw [hU]; exact hZc.warm hW⟩⟩ rfl rfl hl.1 rfl (lv_room (Nat.le_of_ble_eq_true rfl)) dL_many_4 ⟨Nat.le_of_ble_eq_true rfl, Nat.le_of_ble_eq_true rfl⟩) hS (fun q _ h => hFc q h) hFc (fun r_1 u t H1 locs ht hvm hw hB hz1 hk1 hS => ?_)
  obtain ⟨hP1, hK1, hD1⟩ := hB
  rw [ht] at hP1
  have hK1 := va_K.moved hvm.symm hK1
  obtain ⟨hP, hD⟩ := va_join (wr := [(qo, .inl (cL, 1, .inr (.inl (fun _ => 0))))]) (w1 := [(h0, .inr (9, [.ref qm, .ref qt, .ref qw, .ref qc, .ref qb, .ref qg, .int 0, .int 0, .int 0, .int 0, .int 0]))]) hP hD [0] [1] rfl rfl (by decide) (by decide) hk1 hFc hP1 hD1
  have hK := (hK.sub (tys' := [(cL, .long)]) [0] rfl).app hK1
  generalize H1 = H at hP hS ⊢
  have hP : va_P (dC, dI) vwCl [(qo, .inl (cL, 1, .inr (.inl (fun _ => 0)))), (h0, .inr (9, [.ref qm, .ref qt, .ref qw, .ref qc, .ref qb, .ref qg, .int 0, .int 0, .int 0, .int 0, .int 0]))] H := hP
  have hD : va_D A [(qo, .inl (cL, 1, .inr (.inl (fun _ => 0)))), (h0, .inr (9, [.ref qm, .ref qt, .ref qw, .ref qc, .ref qb, .ref qg, .int 0, .int 0, .int 0, .int 0, .int 0]))] := hD
  have hK : va_K (dC, dI) vwCl [(cL, .long)] s := hK
  refine W.widen (k := 0) (n := 0) (Nat.le_of_ble_eq_true rfl) (Nat.le_of_ble_eq_true rfl) ?_
  obtain rfl : r_1 = 0 := hw
  refine lv_i2l (v := 0) hx hb dL_many_7 (by decide) ?_
  refine va_last hx hb hK hP hD hS 0 0 rfl rfl (by unfold vp_in; decide) dL_many_8 (fun H locs hP hD hS => ?_)
  have hP : va_P (dC, dI) vwCl [(qo, .inl (cL, 1, .inr (.inl (vp_updL (fun _ => 0) ((0 : Int32).toNatClampNeg) 0)))), (h0, .inr (9, [.ref qm, .ref qt, .ref qw, .ref qc, .ref qb, .ref qg, .int 0, .int 0, .int 0, .int 0, .int 0]))] H := hP
  have hD : va_D A [(qo, .inl (cL, 1, .inr (.inl (vp_updL (fun _ => 0) ((0 : Int32).toNatClampNeg) 0)))), (h0, .inr (9, [.ref qm, .ref qt, .ref qw, .ref qc, .ref qb, .ref qg, .int 0, .int 0, .int 0, .int 0, .int 0]))] := hD
  refine lv_goto (tgt := 15) hx hb dL_many_9 (by decide) ?_
  refine lv_iconst (v := 0) hx hb dL_many_15 (by decide) ?_
  have hP9 := hP.sub (ws' := [(qo, .inl (cL, 1, .inr (.inl (vp_updL (fun _ => 0) ((0 : Int32).toNatClampNeg) 0))))]) [0] rfl
  have hD9 := hD.sub (ws' := [(qo, .inl (cL, 1, .inr (.inl (vp_updL (fun _ => 0) ((0 : Int32).toNatClampNeg) 0))))]) [0] (by decide) rfl
  have hK9 := hK.sub (tys' := [(cL, .long)]) [0] rfl
  refine W.widen (k := 0) (n := 0) (Nat.le_of_ble_eq_true rfl) (Nat.le_of_ble_eq_true rfl) ?_
  exact W.iret (v := 0) hx hb hr (fun t ht hW => ⟨⟨0, (), rfl, rfl, ⟨by rw [ht]; exact hP9, va_K.moved hW.alike hK9, hD9⟩⟩, hS.F ht⟩) hS.2.2 dL_many_16

def zs_c_L_many_1 : List Cond := .codeWith yL_many cL_many 4 (some .int) [(0, 9, 12, 13)] :: (([.code yX7_many cX7_many 2 (some .int), .code yX7_isWithin cX7_isWithin 3 (some .boolean), .methodLink RX7 49 yX7_isWithin, .static yX7_isWithin, .initialized RX7, .code yX7_require cX7_require 1 none, .methodLink RX7 53 yX7_require, .static yX7_require, .code yX7_countOfKind cX7_countOfKind 4 (some .int), .fieldLink RX7 148 "Haltingale" "machineCount" "I", .methodLink RX7 252 yX7_countOfKind, .instanceMethod yX7_countOfKind, .selects RX7 yX7_countOfKind yX7_countOfKind, .methodLink RL 74 yX7_many, .instanceMethod yX7_many, .selects RX7 yX7_many yX7_many] : List Cond) ++ wsX70)
set_option maxHeartbeats 4000000 in
set_option maxRecDepth 100000 in
/-- the law's many -/
theorem c_L_many_1 (l : Launch) (hnt : l.stackTraces = false) (dC : Nat → ClassId) (dI : Nat → Nat → Nat) (a0 : Nat) (h0 : Nat) (qm : Nat) (qt : Nat) (qw : Nat) (qc : Nat) (qb : Nat) (qg : Nat) (qo : Nat) (cL : ClassId) (sz : Nat)  : Met l yL_many zs_c_L_many_1 ({ frames := 2, cells := 0, slots := 0, locals := 44 }) (va_Pc [.ref h0, .int 1, .ref qo] (fun U => U.heap.size = sz ∧ va_P (dC, dI) vwCl [(h0, .inr (9, [.ref qm, .ref qt, .ref qw, .ref qc, .ref qb, .ref qg, .int 0, .int 0, .int 0, .int 0, .int 0])), (qo, .inl (cL, 1, .inr (.inl (fun _ => 0))))] U.heap ∧ va_K (dC, dI) vwCl [(cL, .long)] U ∧ va_D (fun _ => True) [(h0, .inr (9, [.ref qm, .ref qt, .ref qw, .ref qc, .ref qb, .ref qg, .int 0, .int 0, .int 0, .int 0, .int 0])), (qo, .inl (cL, 1, .inr (.inl (fun _ => 0))))] ∧ zB a0 (va_A [(h0, .inr (9, [.ref qm, .ref qt, .ref qw, .ref qc, .ref qb, .ref qg, .int 0, .int 0, .int 0, .int 0, .int 0])), (qo, .inl (cL, 1, .inr (.inl (fun _ => 0))))] sz) U U.heap)) (va_Qi (fun (r : Int32) (_ : Unit) => r = 0) (fun _ t => va_P (dC, dI) vwCl [(qo, .inl (cL, 1, .inr (.inl (vp_updL (fun _ => 0) ((0 : Int32).toNatClampNeg) 0))))] t.heap ∧ va_K (dC, dI) vwCl [(cL, .long)] t ∧ va_D (va_A [(h0, .inr (9, [.ref qm, .ref qt, .ref qw, .ref qc, .ref qb, .ref qg, .int 0, .int 0, .int 0, .int 0, .int 0])), (qo, .inl (cL, 1, .inr (.inl (fun _ => 0))))] sz) [(qo, .inl (cL, 1, .inr (.inl (vp_updL (fun _ => 0) ((0 : Int32).toNatClampNeg) 0))))]) (va_A [(h0, .inr (9, [.ref qm, .ref qt, .ref qw, .ref qc, .ref qb, .ref qg, .int 0, .int 0, .int 0, .int 0, .int 0])), (qo, .inl (cL, 1, .inr (.inl (fun _ => 0))))] sz)) 0 0 (va_A [(h0, .inr (9, [.ref qm, .ref qt, .ref qw, .ref qc, .ref qb, .ref qg, .int 0, .int 0, .int 0, .int 0, .int 0])), (qo, .inl (cL, 1, .inr (.inl (fun _ => 0))))] sz) := by
  refine va_MetW (cc := cL_many) (maxL := 4) (ret := (some .int)) (hh := [(0, 9, 12, 13)]) (by decide) rfl ?_
  intro p e s m args below meth c s₁ B hml hv
  obtain ⟨rfl, hsz, hP, hK, hD0, hZ⟩ := hv
  have hx := B.exec
  have hb := B.bytes
  have hr := B.returns
  have hts := atoms_spec (ws := zs_c_L_many_1) B.pre
  have hown : s.vm.findClass RL = some m.cls := findClass_of_methodNamed B.named
  have hlocks := B.notSynchronized
  subst hsz
  have hD := hD0.self (sz := s.heap.size)
  generalize hAe : va_A [(h0, .inr (9, [.ref qm, .ref qt, .ref qw, .ref qc, .ref qb, .ref qg, .int 0, .int 0, .int 0, .int 0, .int 0])), (qo, .inl (cL, 1, .inr (.inl (fun _ => 0))))] s.heap.size = A at hD hZ ⊢
  have hA : ∀ q : Nat, s.heap.size ≤ q → A q := fun q h => by rw [← hAe]; exact Or.inr h
  have hS : va_S A s.heap s.heap [] := va_S.rf
  have hl := lv_entry ([.ref h0, .int 1, .ref qo]) (n := 4) (Nat.le_of_ble_eq_true rfl)
  rw [lg_entry_eq]
  generalize (lg_sl ([.ref h0, .int 1, .ref qo]) ++ List.replicate (4 - (lg_sl ([.ref h0, .int 1, .ref qo])).length) Slot.unset).toArray = ls at hl ⊢
  have hl : lv_has ls 4 [(0, .ref h0), (1, .int 1), (2, .ref qo)] := hl
  refine lv_aload_n hx hb dL_many_0 rfl (lv_at hl 2 rfl) ?_
  refine lv_iconst (v := 0) hx hb dL_many_1 (by decide) ?_
  refine lv_aload_n hx hb dL_many_2 rfl (lv_at hl 0 rfl) ?_
  refine lv_iload_n hx hb dL_many_3 rfl (lv_at hl 1 rfl) ?_
  have hPc := hP.sub (ws' := [(h0, .inr (9, [.ref qm, .ref qt, .ref qw, .ref qc, .ref qb, .ref qg, .int 0, .int 0, .int 0, .int 0, .int 0]))]) [0] rfl
  have hDc := hD.sub (ws' := [(h0, .inr (9, [.ref qm, .ref qt, .ref qw, .ref qc, .ref qb, .ref qg, .int 0, .int 0, .int 0, .int 0, .int 0]))]) [0] (by decide) rfl
  have hKc := hK.sub (tys' := []) [] rfl
  have hFc := va_free (wc := [(h0, .inr (9, [.ref qm, .ref qt, .ref qw, .ref qc, .ref qb, .ref qg, .int 0, .int 0, .int 0, .int 0, .int 0]))]) hD hS hA [0] rfl
  have hZc := ((hZ.kept hS.2.1).narrow hFc)
  refine va_calli (va_runV (As := [.int 1]) (rest := [.int 0, .ref qo]) ⟨hx, hb, hml, hown, hts⟩ (c_X7_many_1 l hnt dC dI a0 h0 qm qt qw qc qb qg s.heap.size ) (cwV 1 hts (goodIn_of _ (by decide +kernel)) rfl rfl rfl (by decide +kernel) ⟨Nat.le_of_ble_eq_true rfl, Nat.le_of_ble_eq_true rfl⟩) ⟨fun a U g mk q => by obtain ⟨q0, q1, qP, qK, qD, qZ⟩ := q; exact ⟨q0, q1, qP, va_K.moved (u := U) (U := U.calling g mk a) (Vm.Alike.refl U.vm) qK, qD, qZ.call⟩, va_recv hKc hPc (ci := 9) (q0 := 0) rfl rfl, fun U hU hW => ⟨rfl, by rw [hU], by rw [hU]; exact hPc, va_K.moved hW.alike hKc, hDc.weaken (fun _ _ _ _ => trivial), by rw [hU]; exact hZc.warm hW⟩⟩ rfl rfl hl.1 rfl (lv_room (Nat.le_of_ble_eq_true rfl)) dL_many_4 ⟨Nat.le_of_ble_eq_true rfl, Nat.le_of_ble_eq_true rfl⟩) hS (fun q _ h => hFc q h) hFc (fun r_1 u t H1 locs ht hvm hw hB hz1 hk1 hS => ?_)
  obtain ⟨hP1, hK1, hD1⟩ := hB
  rw [ht] at hP1
  have hK1 := va_K.moved hvm.symm hK1
  obtain ⟨hP, hD⟩ := va_join (wr := [(qo, .inl (cL, 1, .inr (.inl (fun _ => 0))))]) (w1 := [(h0, .inr (9, [.ref qm, .ref qt, .ref qw, .ref qc, .ref qb, .ref qg, .int 0, .int 0, .int 0, .int 0, .int 0]))]) hP hD [0] [1] rfl rfl (by decide) (by decide) hk1 hFc hP1 hD1
  have hK := (hK.sub (tys' := [(cL, .long)]) [0] rfl).app hK1
  generalize H1 = H at hP hS ⊢
  have hP : va_P (dC, dI) vwCl [(qo, .inl (cL, 1, .inr (.inl (fun _ => 0)))), (h0, .inr (9, [.ref qm, .ref qt, .ref qw, .ref qc, .ref qb, .ref qg, .int 0, .int 0, .int 0, .int 0, .int 0]))] H := hP
  have hD : va_D A [(qo, .inl (cL, 1, .inr (.inl (fun _ => 0)))), (h0, .inr (9, [.ref qm, .ref qt, .ref qw, .ref qc, .ref qb, .ref qg, .int 0, .int 0, .int 0, .int 0, .int 0]))] := hD
  have hK : va_K (dC, dI) vwCl [(cL, .long)] s := hK
  refine W.widen (k := 0) (n := 0) (Nat.le_of_ble_eq_true rfl) (Nat.le_of_ble_eq_true rfl) ?_
  obtain rfl : r_1 = 0 := hw
  refine lv_i2l (v := 0) hx hb dL_many_7 (by decide) ?_
  refine va_last hx hb hK hP hD hS 0 0 rfl rfl (by unfold vp_in; decide) dL_many_8 (fun H locs hP hD hS => ?_)
  have hP : va_P (dC, dI) vwCl [(qo, .inl (cL, 1, .inr (.inl (vp_updL (fun _ => 0) ((0 : Int32).toNatClampNeg) 0)))), (h0, .inr (9, [.ref qm, .ref qt, .ref qw, .ref qc, .ref qb, .ref qg, .int 0, .int 0, .int 0, .int 0, .int 0]))] H := hP
  have hD : va_D A [(qo, .inl (cL, 1, .inr (.inl (vp_updL (fun _ => 0) ((0 : Int32).toNatClampNeg) 0)))), (h0, .inr (9, [.ref qm, .ref qt, .ref qw, .ref qc, .ref qb, .ref qg, .int 0, .int 0, .int 0, .int 0, .int 0]))] := hD
  refine lv_goto (tgt := 15) hx hb dL_many_9 (by decide) ?_
  refine lv_iconst (v := 0) hx hb dL_many_15 (by decide) ?_
  have hP9 := hP.sub (ws' := [(qo, .inl (cL, 1, .inr (.inl (vp_updL (fun _ => 0) ((0 : Int32).toNatClampNeg) 0))))]) [0] rfl
  have hD9 := hD.sub (ws' := [(qo, .inl (cL, 1, .inr (.inl (vp_updL (fun _ => 0) ((0 : Int32).toNatClampNeg) 0))))]) [0] (by decide) rfl
  have hK9 := hK.sub (tys' := [(cL, .long)]) [0] rfl
  refine W.widen (k := 0) (n := 0) (Nat.le_of_ble_eq_true rfl) (Nat.le_of_ble_eq_true rfl) ?_
  exact W.iret (v := 0) hx hb hr (fun t ht hW => ⟨⟨0, (), rfl, rfl, ⟨by rw [ht]; exact hP9, va_K.moved hW.alike hK9, hD9⟩⟩, hS.F ht⟩) hS.2.2 dL_many_16

def zs_c_L_many_2 : List Cond := .codeWith yL_many cL_many 4 (some .int) [(0, 9, 12, 13)] :: (([.code yX7_many cX7_many 2 (some .int), .code yX7_isWithin cX7_isWithin 3 (some .boolean), .methodLink RX7 49 yX7_isWithin, .static yX7_isWithin, .initialized RX7, .code yX7_require cX7_require 1 none, .methodLink RX7 53 yX7_require, .static yX7_require, .code yX7_countOfKind cX7_countOfKind 4 (some .int), .fieldLink RX7 148 "Haltingale" "machineCount" "I", .methodLink RX7 252 yX7_countOfKind, .instanceMethod yX7_countOfKind, .selects RX7 yX7_countOfKind yX7_countOfKind, .methodLink RL 74 yX7_many, .instanceMethod yX7_many, .selects RX7 yX7_many yX7_many] : List Cond) ++ wsX70)
set_option maxHeartbeats 4000000 in
set_option maxRecDepth 100000 in
/-- the law's many -/
theorem c_L_many_2 (l : Launch) (hnt : l.stackTraces = false) (dC : Nat → ClassId) (dI : Nat → Nat → Nat) (a0 : Nat) (h0 : Nat) (qm : Nat) (qt : Nat) (qw : Nat) (qc : Nat) (qb : Nat) (qg : Nat) (qo : Nat) (cL : ClassId) (sz : Nat)  : Met l yL_many zs_c_L_many_2 ({ frames := 2, cells := 0, slots := 0, locals := 44 }) (va_Pc [.ref h0, .int 2, .ref qo] (fun U => U.heap.size = sz ∧ va_P (dC, dI) vwCl [(h0, .inr (9, [.ref qm, .ref qt, .ref qw, .ref qc, .ref qb, .ref qg, .int 0, .int 0, .int 0, .int 0, .int 0])), (qo, .inl (cL, 1, .inr (.inl (fun _ => 0))))] U.heap ∧ va_K (dC, dI) vwCl [(cL, .long)] U ∧ va_D (fun _ => True) [(h0, .inr (9, [.ref qm, .ref qt, .ref qw, .ref qc, .ref qb, .ref qg, .int 0, .int 0, .int 0, .int 0, .int 0])), (qo, .inl (cL, 1, .inr (.inl (fun _ => 0))))] ∧ zB a0 (va_A [(h0, .inr (9, [.ref qm, .ref qt, .ref qw, .ref qc, .ref qb, .ref qg, .int 0, .int 0, .int 0, .int 0, .int 0])), (qo, .inl (cL, 1, .inr (.inl (fun _ => 0))))] sz) U U.heap)) (va_Qi (fun (r : Int32) (_ : Unit) => r = 0) (fun _ t => va_P (dC, dI) vwCl [(qo, .inl (cL, 1, .inr (.inl (vp_updL (fun _ => 0) ((0 : Int32).toNatClampNeg) 0))))] t.heap ∧ va_K (dC, dI) vwCl [(cL, .long)] t ∧ va_D (va_A [(h0, .inr (9, [.ref qm, .ref qt, .ref qw, .ref qc, .ref qb, .ref qg, .int 0, .int 0, .int 0, .int 0, .int 0])), (qo, .inl (cL, 1, .inr (.inl (fun _ => 0))))] sz) [(qo, .inl (cL, 1, .inr (.inl (vp_updL (fun _ => 0) ((0 : Int32).toNatClampNeg) 0))))]) (va_A [(h0, .inr (9, [.ref qm, .ref qt, .ref qw, .ref qc, .ref qb, .ref qg, .int 0, .int 0, .int 0, .int 0, .int 0])), (qo, .inl (cL, 1, .inr (.inl (fun _ => 0))))] sz)) 0 0 (va_A [(h0, .inr (9, [.ref qm, .ref qt, .ref qw, .ref qc, .ref qb, .ref qg, .int 0, .int 0, .int 0, .int 0, .int 0])), (qo, .inl (cL, 1, .inr (.inl (fun _ => 0))))] sz) := by
  refine va_MetW (cc := cL_many) (maxL := 4) (ret := (some .int)) (hh := [(0, 9, 12, 13)]) (by decide) rfl ?_
  intro p e s m args below meth c s₁ B hml hv
  obtain ⟨rfl, hsz, hP, hK, hD0, hZ⟩ := hv
  have hx := B.exec
  have hb := B.bytes
  have hr := B.returns
  have hts := atoms_spec (ws := zs_c_L_many_2) B.pre
  have hown : s.vm.findClass RL = some m.cls := findClass_of_methodNamed B.named
  have hlocks := B.notSynchronized
  subst hsz
  have hD := hD0.self (sz := s.heap.size)
  generalize hAe : va_A [(h0, .inr (9, [.ref qm, .ref qt, .ref qw, .ref qc, .ref qb, .ref qg, .int 0, .int 0, .int 0, .int 0, .int 0])), (qo, .inl (cL, 1, .inr (.inl (fun _ => 0))))] s.heap.size = A at hD hZ ⊢
  have hA : ∀ q : Nat, s.heap.size ≤ q → A q := fun q h => by rw [← hAe]; exact Or.inr h
  have hS : va_S A s.heap s.heap [] := va_S.rf
  have hl := lv_entry ([.ref h0, .int 2, .ref qo]) (n := 4) (Nat.le_of_ble_eq_true rfl)
  rw [lg_entry_eq]
  generalize (lg_sl ([.ref h0, .int 2, .ref qo]) ++ List.replicate (4 - (lg_sl ([.ref h0, .int 2, .ref qo])).length) Slot.unset).toArray = ls at hl ⊢
  have hl : lv_has ls 4 [(0, .ref h0), (1, .int 2), (2, .ref qo)] := hl
  refine lv_aload_n hx hb dL_many_0 rfl (lv_at hl 2 rfl) ?_
  refine lv_iconst (v := 0) hx hb dL_many_1 (by decide) ?_
  refine lv_aload_n hx hb dL_many_2 rfl (lv_at hl 0 rfl) ?_
  refine lv_iload_n hx hb dL_many_3 rfl (lv_at hl 1 rfl) ?_
  have hPc := hP.sub (ws' := [(h0, .inr (9, [.ref qm, .ref qt, .ref qw, .ref qc, .ref qb, .ref qg, .int 0, .int 0, .int 0, .int 0, .int 0]))]) [0] rfl
  have hDc := hD.sub (ws' := [(h0, .inr (9, [.ref qm, .ref qt, .ref qw, .ref qc, .ref qb, .ref qg, .int 0, .int 0, .int 0, .int 0, .int 0]))]) [0] (by decide) rfl
  have hKc := hK.sub (tys' := []) [] rfl
  have hFc := va_free (wc := [(h0, .inr (9, [.ref qm, .ref qt, .ref qw, .ref qc, .ref qb, .ref qg, .int 0, .int 0, .int 0, .int 0, .int 0]))]) hD hS hA [0] rfl
  have hZc := ((hZ.kept hS.2.1).narrow hFc)
  refine va_calli (va_runV (As := [.int 2]) (rest := [.int 0, .ref qo]) ⟨hx, hb, hml, hown, hts⟩ (c_X7_many_2 l hnt dC dI a0 h0 qm qt qw qc qb qg s.heap.size ) (cwV 1 hts (goodIn_of _ (by decide +kernel)) rfl rfl rfl (by decide +kernel) ⟨Nat.le_of_ble_eq_true rfl, Nat.le_of_ble_eq_true rfl⟩) ⟨fun a U g mk q => by obtain ⟨q0, q1, qP, qK, qD, qZ⟩ := q; exact ⟨q0, q1, qP, va_K.moved (u := U) (U := U.calling g mk a) (Vm.Alike.refl U.vm) qK, qD, qZ.call⟩, va_recv hKc hPc (ci := 9) (q0 := 0) rfl rfl, fun U hU hW => ⟨rfl, by rw [hU], by rw [hU]; exact hPc, va_K.moved hW.alike hKc, hDc.weaken (fun _ _ _ _ => trivial), by rw [hU]; exact hZc.warm hW⟩⟩ rfl rfl hl.1 rfl (lv_room (Nat.le_of_ble_eq_true rfl)) dL_many_4 ⟨Nat.le_of_ble_eq_true rfl, Nat.le_of_ble_eq_true rfl⟩) hS (fun q _ h => hFc q h) hFc (fun r_1 u t H1 locs ht hvm hw hB hz1 hk1 hS => ?_)
  obtain ⟨hP1, hK1, hD1⟩ := hB
  rw [ht] at hP1
  have hK1 := va_K.moved hvm.symm hK1
  obtain ⟨hP, hD⟩ := va_join (wr := [(qo, .inl (cL, 1, .inr (.inl (fun _ => 0))))]) (w1 := [(h0, .inr (9, [.ref qm, .ref qt, .ref qw, .ref qc, .ref qb, .ref qg, .int 0, .int 0, .int 0, .int 0, .int 0]))]) hP hD [0] [1] rfl rfl (by decide) (by decide) hk1 hFc hP1 hD1
  have hK := (hK.sub (tys' := [(cL, .long)]) [0] rfl).app hK1
  generalize H1 = H at hP hS ⊢
  have hP : va_P (dC, dI) vwCl [(qo, .inl (cL, 1, .inr (.inl (fun _ => 0)))), (h0, .inr (9, [.ref qm, .ref qt, .ref qw, .ref qc, .ref qb, .ref qg, .int 0, .int 0, .int 0, .int 0, .int 0]))] H := hP
  have hD : va_D A [(qo, .inl (cL, 1, .inr (.inl (fun _ => 0)))), (h0, .inr (9, [.ref qm, .ref qt, .ref qw, .ref qc, .ref qb, .ref qg, .int 0, .int 0, .int 0, .int 0, .int 0]))] := hD
  have hK : va_K (dC, dI) vwCl [(cL, .long)] s := hK
  refine W.widen (k := 0) (n := 0) (Nat.le_of_ble_eq_true rfl) (Nat.le_of_ble_eq_true rfl) ?_
  obtain rfl : r_1 = 0 := hw
  refine lv_i2l (v := 0) hx hb dL_many_7 (by decide) ?_
  refine va_last hx hb hK hP hD hS 0 0 rfl rfl (by unfold vp_in; decide) dL_many_8 (fun H locs hP hD hS => ?_)
  have hP : va_P (dC, dI) vwCl [(qo, .inl (cL, 1, .inr (.inl (vp_updL (fun _ => 0) ((0 : Int32).toNatClampNeg) 0)))), (h0, .inr (9, [.ref qm, .ref qt, .ref qw, .ref qc, .ref qb, .ref qg, .int 0, .int 0, .int 0, .int 0, .int 0]))] H := hP
  have hD : va_D A [(qo, .inl (cL, 1, .inr (.inl (vp_updL (fun _ => 0) ((0 : Int32).toNatClampNeg) 0)))), (h0, .inr (9, [.ref qm, .ref qt, .ref qw, .ref qc, .ref qb, .ref qg, .int 0, .int 0, .int 0, .int 0, .int 0]))] := hD
  refine lv_goto (tgt := 15) hx hb dL_many_9 (by decide) ?_
  refine lv_iconst (v := 0) hx hb dL_many_15 (by decide) ?_
  have hP9 := hP.sub (ws' := [(qo, .inl (cL, 1, .inr (.inl (vp_updL (fun _ => 0) ((0 : Int32).toNatClampNeg) 0))))]) [0] rfl
  have hD9 := hD.sub (ws' := [(qo, .inl (cL, 1, .inr (.inl (vp_updL (fun _ => 0) ((0 : Int32).toNatClampNeg) 0))))]) [0] (by decide) rfl
  have hK9 := hK.sub (tys' := [(cL, .long)]) [0] rfl
  refine W.widen (k := 0) (n := 0) (Nat.le_of_ble_eq_true rfl) (Nat.le_of_ble_eq_true rfl) ?_
  exact W.iret (v := 0) hx hb hr (fun t ht hW => ⟨⟨0, (), rfl, rfl, ⟨by rw [ht]; exact hP9, va_K.moved hW.alike hK9, hD9⟩⟩, hS.F ht⟩) hS.2.2 dL_many_16

def zs_c_L_many_3 : List Cond := .codeWith yL_many cL_many 4 (some .int) [(0, 9, 12, 13)] :: (([.code yX7_many cX7_many 2 (some .int), .code yX7_isWithin cX7_isWithin 3 (some .boolean), .methodLink RX7 49 yX7_isWithin, .static yX7_isWithin, .initialized RX7, .code yX7_require cX7_require 1 none, .methodLink RX7 53 yX7_require, .static yX7_require, .code yX7_countOfKind cX7_countOfKind 4 (some .int), .fieldLink RX7 148 "Haltingale" "machineCount" "I", .methodLink RX7 252 yX7_countOfKind, .instanceMethod yX7_countOfKind, .selects RX7 yX7_countOfKind yX7_countOfKind, .methodLink RL 74 yX7_many, .instanceMethod yX7_many, .selects RX7 yX7_many yX7_many] : List Cond) ++ wsX70)
set_option maxHeartbeats 4000000 in
set_option maxRecDepth 100000 in
/-- the law's many -/
theorem c_L_many_3 (l : Launch) (hnt : l.stackTraces = false) (dC : Nat → ClassId) (dI : Nat → Nat → Nat) (a0 : Nat) (h0 : Nat) (qm : Nat) (qt : Nat) (qw : Nat) (qc : Nat) (qb : Nat) (qg : Nat) (qo : Nat) (cL : ClassId) (sz : Nat)  : Met l yL_many zs_c_L_many_3 ({ frames := 2, cells := 0, slots := 0, locals := 44 }) (va_Pc [.ref h0, .int 3, .ref qo] (fun U => U.heap.size = sz ∧ va_P (dC, dI) vwCl [(h0, .inr (9, [.ref qm, .ref qt, .ref qw, .ref qc, .ref qb, .ref qg, .int 0, .int 0, .int 0, .int 0, .int 0])), (qo, .inl (cL, 1, .inr (.inl (fun _ => 0))))] U.heap ∧ va_K (dC, dI) vwCl [(cL, .long)] U ∧ va_D (fun _ => True) [(h0, .inr (9, [.ref qm, .ref qt, .ref qw, .ref qc, .ref qb, .ref qg, .int 0, .int 0, .int 0, .int 0, .int 0])), (qo, .inl (cL, 1, .inr (.inl (fun _ => 0))))] ∧ zB a0 (va_A [(h0, .inr (9, [.ref qm, .ref qt, .ref qw, .ref qc, .ref qb, .ref qg, .int 0, .int 0, .int 0, .int 0, .int 0])), (qo, .inl (cL, 1, .inr (.inl (fun _ => 0))))] sz) U U.heap)) (va_Qi (fun (r : Int32) (_ : Unit) => r = 0) (fun _ t => va_P (dC, dI) vwCl [(qo, .inl (cL, 1, .inr (.inl (vp_updL (fun _ => 0) ((0 : Int32).toNatClampNeg) 0))))] t.heap ∧ va_K (dC, dI) vwCl [(cL, .long)] t ∧ va_D (va_A [(h0, .inr (9, [.ref qm, .ref qt, .ref qw, .ref qc, .ref qb, .ref qg, .int 0, .int 0, .int 0, .int 0, .int 0])), (qo, .inl (cL, 1, .inr (.inl (fun _ => 0))))] sz) [(qo, .inl (cL, 1, .inr (.inl (vp_updL (fun _ => 0) ((0 : Int32).toNatClampNeg) 0))))]) (va_A [(h0, .inr (9, [.ref qm, .ref qt, .ref qw, .ref qc, .ref qb, .ref qg, .int 0, .int 0, .int 0, .int 0, .int 0])), (qo, .inl (cL, 1, .inr (.inl (fun _ => 0))))] sz)) 0 0 (va_A [(h0, .inr (9, [.ref qm, .ref qt, .ref qw, .ref qc, .ref qb, .ref qg, .int 0, .int 0, .int 0, .int 0, .int 0])), (qo, .inl (cL, 1, .inr (.inl (fun _ => 0))))] sz) := by
  refine va_MetW (cc := cL_many) (maxL := 4) (ret := (some .int)) (hh := [(0, 9, 12, 13)]) (by decide) rfl ?_
  intro p e s m args below meth c s₁ B hml hv
  obtain ⟨rfl, hsz, hP, hK, hD0, hZ⟩ := hv
  have hx := B.exec
  have hb := B.bytes
  have hr := B.returns
  have hts := atoms_spec (ws := zs_c_L_many_3) B.pre
  have hown : s.vm.findClass RL = some m.cls := findClass_of_methodNamed B.named
  have hlocks := B.notSynchronized
  subst hsz
  have hD := hD0.self (sz := s.heap.size)
  generalize hAe : va_A [(h0, .inr (9, [.ref qm, .ref qt, .ref qw, .ref qc, .ref qb, .ref qg, .int 0, .int 0, .int 0, .int 0, .int 0])), (qo, .inl (cL, 1, .inr (.inl (fun _ => 0))))] s.heap.size = A at hD hZ ⊢
  have hA : ∀ q : Nat, s.heap.size ≤ q → A q := fun q h => by rw [← hAe]; exact Or.inr h
  have hS : va_S A s.heap s.heap [] := va_S.rf
  have hl := lv_entry ([.ref h0, .int 3, .ref qo]) (n := 4) (Nat.le_of_ble_eq_true rfl)
  rw [lg_entry_eq]
  generalize (lg_sl ([.ref h0, .int 3, .ref qo]) ++ List.replicate (4 - (lg_sl ([.ref h0, .int 3, .ref qo])).length) Slot.unset).toArray = ls at hl ⊢
  have hl : lv_has ls 4 [(0, .ref h0), (1, .int 3), (2, .ref qo)] := hl
  refine lv_aload_n hx hb dL_many_0 rfl (lv_at hl 2 rfl) ?_
  refine lv_iconst (v := 0) hx hb dL_many_1 (by decide) ?_
  refine lv_aload_n hx hb dL_many_2 rfl (lv_at hl 0 rfl) ?_
  refine lv_iload_n hx hb dL_many_3 rfl (lv_at hl 1 rfl) ?_
  have hPc := hP.sub (ws' := [(h0, .inr (9, [.ref qm, .ref qt, .ref qw, .ref qc, .ref qb, .ref qg, .int 0, .int 0, .int 0, .int 0, .int 0]))]) [0] rfl
  have hDc := hD.sub (ws' := [(h0, .inr (9, [.ref qm, .ref qt, .ref qw, .ref qc, .ref qb, .ref qg, .int 0, .int 0, .int 0, .int 0, .int 0]))]) [0] (by decide) rfl
  have hKc := hK.sub (tys' := []) [] rfl
  have hFc := va_free (wc := [(h0, .inr (9, [.ref qm, .ref qt, .ref qw, .ref qc, .ref qb, .ref qg, .int 0, .int 0, .int 0, .int 0, .int 0]))]) hD hS hA [0] rfl
  have hZc := ((hZ.kept hS.2.1).narrow hFc)
  refine va_calli (va_runV (As := [.int 3]) (rest := [.int 0, .ref qo]) ⟨hx, hb, hml, hown, hts⟩ (c_X7_many_3 l hnt dC dI a0 h0 qm qt qw qc qb qg s.heap.size ) (cwV 1 hts (goodIn_of _ (by decide +kernel)) rfl rfl rfl (by decide +kernel) ⟨Nat.le_of_ble_eq_true rfl, Nat.le_of_ble_eq_true rfl⟩) ⟨fun a U g mk q => by obtain ⟨q0, q1, qP, qK, qD, qZ⟩ := q; exact ⟨q0, q1, qP, va_K.moved (u := U) (U := U.calling g mk a) (Vm.Alike.refl U.vm) qK, qD, qZ.call⟩, va_recv hKc hPc (ci := 9) (q0 := 0) rfl rfl, fun U hU hW => ⟨rfl, by rw [hU], by rw [hU]; exact hPc, va_K.moved hW.alike hKc, hDc.weaken (fun _ _ _ _ => trivial), by rw [hU]; exact hZc.warm hW⟩⟩ rfl rfl hl.1 rfl (lv_room (Nat.le_of_ble_eq_true rfl)) dL_many_4 ⟨Nat.le_of_ble_eq_true rfl, Nat.le_of_ble_eq_true rfl⟩) hS (fun q _ h => hFc q h) hFc (fun r_1 u t H1 locs ht hvm hw hB hz1 hk1 hS => ?_)
  obtain ⟨hP1, hK1, hD1⟩ := hB
  rw [ht] at hP1
  have hK1 := va_K.moved hvm.symm hK1
  obtain ⟨hP, hD⟩ := va_join (wr := [(qo, .inl (cL, 1, .inr (.inl (fun _ => 0))))]) (w1 := [(h0, .inr (9, [.ref qm, .ref qt, .ref qw, .ref qc, .ref qb, .ref qg, .int 0, .int 0, .int 0, .int 0, .int 0]))]) hP hD [0] [1] rfl rfl (by decide) (by decide) hk1 hFc hP1 hD1
  have hK := (hK.sub (tys' := [(cL, .long)]) [0] rfl).app hK1
  generalize H1 = H at hP hS ⊢
  have hP : va_P (dC, dI) vwCl [(qo, .inl (cL, 1, .inr (.inl (fun _ => 0)))), (h0, .inr (9, [.ref qm, .ref qt, .ref qw, .ref qc, .ref qb, .ref qg, .int 0, .int 0, .int 0, .int 0, .int 0]))] H := hP
  have hD : va_D A [(qo, .inl (cL, 1, .inr (.inl (fun _ => 0)))), (h0, .inr (9, [.ref qm, .ref qt, .ref qw, .ref qc, .ref qb, .ref qg, .int 0, .int 0, .int 0, .int 0, .int 0]))] := hD
  have hK : va_K (dC, dI) vwCl [(cL, .long)] s := hK
  refine W.widen (k := 0) (n := 0) (Nat.le_of_ble_eq_true rfl) (Nat.le_of_ble_eq_true rfl) ?_
  obtain rfl : r_1 = 0 := hw
  refine lv_i2l (v := 0) hx hb dL_many_7 (by decide) ?_
  refine va_last hx hb hK hP hD hS 0 0 rfl rfl (by unfold vp_in; decide) dL_many_8 (fun H locs hP hD hS => ?_)
  have hP : va_P (dC, dI) vwCl [(qo, .inl (cL, 1, .inr (.inl (vp_updL (fun _ => 0) ((0 : Int32).toNatClampNeg) 0)))), (h0, .inr (9, [.ref qm, .ref qt, .ref qw, .ref qc, .ref qb, .ref qg, .int 0, .int 0, .int 0, .int 0, .int 0]))] H := hP
  have hD : va_D A [(qo, .inl (cL, 1, .inr (.inl (vp_updL (fun _ => 0) ((0 : Int32).toNatClampNeg) 0)))), (h0, .inr (9, [.ref qm, .ref qt, .ref qw, .ref qc, .ref qb, .ref qg, .int 0, .int 0, .int 0, .int 0, .int 0]))] := hD
  refine lv_goto (tgt := 15) hx hb dL_many_9 (by decide) ?_
  refine lv_iconst (v := 0) hx hb dL_many_15 (by decide) ?_
  have hP9 := hP.sub (ws' := [(qo, .inl (cL, 1, .inr (.inl (vp_updL (fun _ => 0) ((0 : Int32).toNatClampNeg) 0))))]) [0] rfl
  have hD9 := hD.sub (ws' := [(qo, .inl (cL, 1, .inr (.inl (vp_updL (fun _ => 0) ((0 : Int32).toNatClampNeg) 0))))]) [0] (by decide) rfl
  have hK9 := hK.sub (tys' := [(cL, .long)]) [0] rfl
  refine W.widen (k := 0) (n := 0) (Nat.le_of_ble_eq_true rfl) (Nat.le_of_ble_eq_true rfl) ?_
  exact W.iret (v := 0) hx hb hr (fun t ht hW => ⟨⟨0, (), rfl, rfl, ⟨by rw [ht]; exact hP9, va_K.moved hW.alike hK9, hD9⟩⟩, hS.F ht⟩) hS.2.2 dL_many_16

def zs_c_L_many_4 : List Cond := .codeWith yL_many cL_many 4 (some .int) [(0, 9, 12, 13)] :: (([.code yX7_many cX7_many 2 (some .int), .code yX7_isWithin cX7_isWithin 3 (some .boolean), .methodLink RX7 49 yX7_isWithin, .static yX7_isWithin, .initialized RX7, .code yX7_require cX7_require 1 none, .methodLink RX7 53 yX7_require, .static yX7_require, .code yX7_countOfKind cX7_countOfKind 4 (some .int), .fieldLink RX7 148 "Haltingale" "machineCount" "I", .methodLink RX7 252 yX7_countOfKind, .instanceMethod yX7_countOfKind, .selects RX7 yX7_countOfKind yX7_countOfKind, .methodLink RL 74 yX7_many, .instanceMethod yX7_many, .selects RX7 yX7_many yX7_many] : List Cond) ++ wsX70)
set_option maxHeartbeats 4000000 in
set_option maxRecDepth 100000 in
/-- the law's many -/
theorem c_L_many_4 (l : Launch) (hnt : l.stackTraces = false) (dC : Nat → ClassId) (dI : Nat → Nat → Nat) (a0 : Nat) (h0 : Nat) (qm : Nat) (qt : Nat) (qw : Nat) (qc : Nat) (qb : Nat) (qg : Nat) (qo : Nat) (cL : ClassId) (sz : Nat)  : Met l yL_many zs_c_L_many_4 ({ frames := 2, cells := 0, slots := 0, locals := 44 }) (va_Pc [.ref h0, .int 4, .ref qo] (fun U => U.heap.size = sz ∧ va_P (dC, dI) vwCl [(h0, .inr (9, [.ref qm, .ref qt, .ref qw, .ref qc, .ref qb, .ref qg, .int 0, .int 0, .int 0, .int 0, .int 0])), (qo, .inl (cL, 1, .inr (.inl (fun _ => 0))))] U.heap ∧ va_K (dC, dI) vwCl [(cL, .long)] U ∧ va_D (fun _ => True) [(h0, .inr (9, [.ref qm, .ref qt, .ref qw, .ref qc, .ref qb, .ref qg, .int 0, .int 0, .int 0, .int 0, .int 0])), (qo, .inl (cL, 1, .inr (.inl (fun _ => 0))))] ∧ zB a0 (va_A [(h0, .inr (9, [.ref qm, .ref qt, .ref qw, .ref qc, .ref qb, .ref qg, .int 0, .int 0, .int 0, .int 0, .int 0])), (qo, .inl (cL, 1, .inr (.inl (fun _ => 0))))] sz) U U.heap)) (va_Qi (fun (r : Int32) (_ : Unit) => r = 0) (fun _ t => va_P (dC, dI) vwCl [(qo, .inl (cL, 1, .inr (.inl (vp_updL (fun _ => 0) ((0 : Int32).toNatClampNeg) 0))))] t.heap ∧ va_K (dC, dI) vwCl [(cL, .long)] t ∧ va_D (va_A [(h0, .inr (9, [.ref qm, .ref qt, .ref qw, .ref qc, .ref qb, .ref qg, .int 0, .int 0, .int 0, .int 0, .int 0])), (qo, .inl (cL, 1, .inr (.inl (fun _ => 0))))] sz) [(qo, .inl (cL, 1, .inr (.inl (vp_updL (fun _ => 0) ((0 : Int32).toNatClampNeg) 0))))]) (va_A [(h0, .inr (9, [.ref qm, .ref qt, .ref qw, .ref qc, .ref qb, .ref qg, .int 0, .int 0, .int 0, .int 0, .int 0])), (qo, .inl (cL, 1, .inr (.inl (fun _ => 0))))] sz)) 0 0 (va_A [(h0, .inr (9, [.ref qm, .ref qt, .ref qw, .ref qc, .ref qb, .ref qg, .int 0, .int 0, .int 0, .int 0, .int 0])), (qo, .inl (cL, 1, .inr (.inl (fun _ => 0))))] sz) := by
  refine va_MetW (cc := cL_many) (maxL := 4) (ret := (some .int)) (hh := [(0, 9, 12, 13)]) (by decide) rfl ?_
  intro p e s m args below meth c s₁ B hml hv
  obtain ⟨rfl, hsz, hP, hK, hD0, hZ⟩ := hv
  have hx := B.exec
  have hb := B.bytes
  have hr := B.returns
  have hts := atoms_spec (ws := zs_c_L_many_4) B.pre
  have hown : s.vm.findClass RL = some m.cls := findClass_of_methodNamed B.named
  have hlocks := B.notSynchronized
  subst hsz
  have hD := hD0.self (sz := s.heap.size)
  generalize hAe : va_A [(h0, .inr (9, [.ref qm, .ref qt, .ref qw, .ref qc, .ref qb, .ref qg, .int 0, .int 0, .int 0, .int 0, .int 0])), (qo, .inl (cL, 1, .inr (.inl (fun _ => 0))))] s.heap.size = A at hD hZ ⊢
  have hA : ∀ q : Nat, s.heap.size ≤ q → A q := fun q h => by rw [← hAe]; exact Or.inr h
  have hS : va_S A s.heap s.heap [] := va_S.rf
  have hl := lv_entry ([.ref h0, .int 4, .ref qo]) (n := 4) (Nat.le_of_ble_eq_true rfl)
  rw [lg_entry_eq]
  generalize (lg_sl ([.ref h0, .int 4, .ref qo]) ++ List.replicate (4 - (lg_sl ([.ref h0, .int 4, .ref qo])).length) Slot.unset).toArray = ls at hl ⊢
  have hl : lv_has ls 4 [(0, .ref h0), (1, .int 4), (2, .ref qo)] := hl
  refine lv_aload_n hx hb dL_many_0 rfl (lv_at hl 2 rfl) ?_
  refine lv_iconst (v := 0) hx hb dL_many_1 (by decide) ?_
  refine lv_aload_n hx hb dL_many_2 rfl (lv_at hl 0 rfl) ?_
  refine lv_iload_n hx hb dL_many_3 rfl (lv_at hl 1 rfl) ?_
  have hPc := hP.sub (ws' := [(h0, .inr (9, [.ref qm, .ref qt, .ref qw, .ref qc, .ref qb, .ref qg, .int 0, .int 0, .int 0, .int 0, .int 0]))]) [0] rfl
  have hDc := hD.sub (ws' := [(h0, .inr (9, [.ref qm, .ref qt, .ref qw, .ref qc, .ref qb, .ref qg, .int 0, .int 0, .int 0, .int 0, .int 0]))]) [0] (by decide) rfl
  have hKc := hK.sub (tys' := []) [] rfl
  have hFc := va_free (wc := [(h0, .inr (9, [.ref qm, .ref qt, .ref qw, .ref qc, .ref qb, .ref qg, .int 0, .int 0, .int 0, .int 0, .int 0]))]) hD hS hA [0] rfl
  have hZc := ((hZ.kept hS.2.1).narrow hFc)
  refine va_calli (va_runV (As := [.int 4]) (rest := [.int 0, .ref qo]) ⟨hx, hb, hml, hown, hts⟩ (c_X7_many_4 l hnt dC dI a0 h0 qm qt qw qc qb qg s.heap.size ) (cwV 1 hts (goodIn_of _ (by decide +kernel)) rfl rfl rfl (by decide +kernel) ⟨Nat.le_of_ble_eq_true rfl, Nat.le_of_ble_eq_true rfl⟩) ⟨fun a U g mk q => by obtain ⟨q0, q1, qP, qK, qD, qZ⟩ := q; exact ⟨q0, q1, qP, va_K.moved (u := U) (U := U.calling g mk a) (Vm.Alike.refl U.vm) qK, qD, qZ.call⟩, va_recv hKc hPc (ci := 9) (q0 := 0) rfl rfl, fun U hU hW => ⟨rfl, by rw [hU], by rw [hU]; exact hPc, va_K.moved hW.alike hKc, hDc.weaken (fun _ _ _ _ => trivial), by rw [hU]; exact hZc.warm hW⟩⟩ rfl rfl hl.1 rfl (lv_room (Nat.le_of_ble_eq_true rfl)) dL_many_4 ⟨Nat.le_of_ble_eq_true rfl, Nat.le_of_ble_eq_true rfl⟩) hS (fun q _ h => hFc q h) hFc (fun r_1 u t H1 locs ht hvm hw hB hz1 hk1 hS => ?_)
  obtain ⟨hP1, hK1, hD1⟩ := hB
  rw [ht] at hP1
  have hK1 := va_K.moved hvm.symm hK1
  obtain ⟨hP, hD⟩ := va_join (wr := [(qo, .inl (cL, 1, .inr (.inl (fun _ => 0))))]) (w1 := [(h0, .inr (9, [.ref qm, .ref qt, .ref qw, .ref qc, .ref qb, .ref qg, .int 0, .int 0, .int 0, .int 0, .int 0]))]) hP hD [0] [1] rfl rfl (by decide) (by decide) hk1 hFc hP1 hD1
  have hK := (hK.sub (tys' := [(cL, .long)]) [0] rfl).app hK1
  generalize H1 = H at hP hS ⊢
  have hP : va_P (dC, dI) vwCl [(qo, .inl (cL, 1, .inr (.inl (fun _ => 0)))), (h0, .inr (9, [.ref qm, .ref qt, .ref qw, .ref qc, .ref qb, .ref qg, .int 0, .int 0, .int 0, .int 0, .int 0]))] H := hP
  have hD : va_D A [(qo, .inl (cL, 1, .inr (.inl (fun _ => 0)))), (h0, .inr (9, [.ref qm, .ref qt, .ref qw, .ref qc, .ref qb, .ref qg, .int 0, .int 0, .int 0, .int 0, .int 0]))] := hD
  have hK : va_K (dC, dI) vwCl [(cL, .long)] s := hK
  refine W.widen (k := 0) (n := 0) (Nat.le_of_ble_eq_true rfl) (Nat.le_of_ble_eq_true rfl) ?_
  obtain rfl : r_1 = 0 := hw
  refine lv_i2l (v := 0) hx hb dL_many_7 (by decide) ?_
  refine va_last hx hb hK hP hD hS 0 0 rfl rfl (by unfold vp_in; decide) dL_many_8 (fun H locs hP hD hS => ?_)
  have hP : va_P (dC, dI) vwCl [(qo, .inl (cL, 1, .inr (.inl (vp_updL (fun _ => 0) ((0 : Int32).toNatClampNeg) 0)))), (h0, .inr (9, [.ref qm, .ref qt, .ref qw, .ref qc, .ref qb, .ref qg, .int 0, .int 0, .int 0, .int 0, .int 0]))] H := hP
  have hD : va_D A [(qo, .inl (cL, 1, .inr (.inl (vp_updL (fun _ => 0) ((0 : Int32).toNatClampNeg) 0)))), (h0, .inr (9, [.ref qm, .ref qt, .ref qw, .ref qc, .ref qb, .ref qg, .int 0, .int 0, .int 0, .int 0, .int 0]))] := hD
  refine lv_goto (tgt := 15) hx hb dL_many_9 (by decide) ?_
  refine lv_iconst (v := 0) hx hb dL_many_15 (by decide) ?_
  have hP9 := hP.sub (ws' := [(qo, .inl (cL, 1, .inr (.inl (vp_updL (fun _ => 0) ((0 : Int32).toNatClampNeg) 0))))]) [0] rfl
  have hD9 := hD.sub (ws' := [(qo, .inl (cL, 1, .inr (.inl (vp_updL (fun _ => 0) ((0 : Int32).toNatClampNeg) 0))))]) [0] (by decide) rfl
  have hK9 := hK.sub (tys' := [(cL, .long)]) [0] rfl
  refine W.widen (k := 0) (n := 0) (Nat.le_of_ble_eq_true rfl) (Nat.le_of_ble_eq_true rfl) ?_
  exact W.iret (v := 0) hx hb hr (fun t ht hW => ⟨⟨0, (), rfl, rfl, ⟨by rw [ht]; exact hP9, va_K.moved hW.alike hK9, hD9⟩⟩, hS.F ht⟩) hS.2.2 dL_many_16

def zs_c_L_many_5 : List Cond := .codeWith yL_many cL_many 4 (some .int) [(0, 9, 12, 13)] :: (([.code yX7_many cX7_many 2 (some .int), .code yX7_isWithin cX7_isWithin 3 (some .boolean), .methodLink RX7 49 yX7_isWithin, .static yX7_isWithin, .initialized RX7, .code yX7_require cX7_require 1 none, .methodLink RX7 53 yX7_require, .static yX7_require, .code yX7_countOfKind cX7_countOfKind 4 (some .int), .fieldLink RX7 148 "Haltingale" "machineCount" "I", .methodLink RX7 252 yX7_countOfKind, .instanceMethod yX7_countOfKind, .selects RX7 yX7_countOfKind yX7_countOfKind, .methodLink RL 74 yX7_many, .instanceMethod yX7_many, .selects RX7 yX7_many yX7_many] : List Cond) ++ wsX70)
set_option maxHeartbeats 4000000 in
set_option maxRecDepth 100000 in
/-- the law's many -/
theorem c_L_many_5 (l : Launch) (hnt : l.stackTraces = false) (dC : Nat → ClassId) (dI : Nat → Nat → Nat) (a0 : Nat) (h0 : Nat) (qm : Nat) (qt : Nat) (qw : Nat) (qc : Nat) (qb : Nat) (qg : Nat) (qo : Nat) (cL : ClassId) (sz : Nat)  : Met l yL_many zs_c_L_many_5 ({ frames := 2, cells := 0, slots := 0, locals := 44 }) (va_Pc [.ref h0, .int 5, .ref qo] (fun U => U.heap.size = sz ∧ va_P (dC, dI) vwCl [(h0, .inr (9, [.ref qm, .ref qt, .ref qw, .ref qc, .ref qb, .ref qg, .int 0, .int 0, .int 0, .int 0, .int 0])), (qo, .inl (cL, 1, .inr (.inl (fun _ => 0))))] U.heap ∧ va_K (dC, dI) vwCl [(cL, .long)] U ∧ va_D (fun _ => True) [(h0, .inr (9, [.ref qm, .ref qt, .ref qw, .ref qc, .ref qb, .ref qg, .int 0, .int 0, .int 0, .int 0, .int 0])), (qo, .inl (cL, 1, .inr (.inl (fun _ => 0))))] ∧ zB a0 (va_A [(h0, .inr (9, [.ref qm, .ref qt, .ref qw, .ref qc, .ref qb, .ref qg, .int 0, .int 0, .int 0, .int 0, .int 0])), (qo, .inl (cL, 1, .inr (.inl (fun _ => 0))))] sz) U U.heap)) (va_Qi (fun (r : Int32) (_ : Unit) => r = 0) (fun _ t => va_P (dC, dI) vwCl [(qo, .inl (cL, 1, .inr (.inl (vp_updL (fun _ => 0) ((0 : Int32).toNatClampNeg) 0))))] t.heap ∧ va_K (dC, dI) vwCl [(cL, .long)] t ∧ va_D (va_A [(h0, .inr (9, [.ref qm, .ref qt, .ref qw, .ref qc, .ref qb, .ref qg, .int 0, .int 0, .int 0, .int 0, .int 0])), (qo, .inl (cL, 1, .inr (.inl (fun _ => 0))))] sz) [(qo, .inl (cL, 1, .inr (.inl (vp_updL (fun _ => 0) ((0 : Int32).toNatClampNeg) 0))))]) (va_A [(h0, .inr (9, [.ref qm, .ref qt, .ref qw, .ref qc, .ref qb, .ref qg, .int 0, .int 0, .int 0, .int 0, .int 0])), (qo, .inl (cL, 1, .inr (.inl (fun _ => 0))))] sz)) 0 0 (va_A [(h0, .inr (9, [.ref qm, .ref qt, .ref qw, .ref qc, .ref qb, .ref qg, .int 0, .int 0, .int 0, .int 0, .int 0])), (qo, .inl (cL, 1, .inr (.inl (fun _ => 0))))] sz) := by
  refine va_MetW (cc := cL_many) (maxL := 4) (ret := (some .int)) (hh := [(0, 9, 12, 13)]) (by decide) rfl ?_
  intro p e s m args below meth c s₁ B hml hv
  obtain ⟨rfl, hsz, hP, hK, hD0, hZ⟩ := hv
  have hx := B.exec
  have hb := B.bytes
  have hr := B.returns
  have hts := atoms_spec (ws := zs_c_L_many_5) B.pre
  have hown : s.vm.findClass RL = some m.cls := findClass_of_methodNamed B.named
  have hlocks := B.notSynchronized
  subst hsz
  have hD := hD0.self (sz := s.heap.size)
  generalize hAe : va_A [(h0, .inr (9, [.ref qm, .ref qt, .ref qw, .ref qc, .ref qb, .ref qg, .int 0, .int 0, .int 0, .int 0, .int 0])), (qo, .inl (cL, 1, .inr (.inl (fun _ => 0))))] s.heap.size = A at hD hZ ⊢
  have hA : ∀ q : Nat, s.heap.size ≤ q → A q := fun q h => by rw [← hAe]; exact Or.inr h
  have hS : va_S A s.heap s.heap [] := va_S.rf
  have hl := lv_entry ([.ref h0, .int 5, .ref qo]) (n := 4) (Nat.le_of_ble_eq_true rfl)
  rw [lg_entry_eq]
  generalize (lg_sl ([.ref h0, .int 5, .ref qo]) ++ List.replicate (4 - (lg_sl ([.ref h0, .int 5, .ref qo])).length) Slot.unset).toArray = ls at hl ⊢
  have hl : lv_has ls 4 [(0, .ref h0), (1, .int 5), (2, .ref qo)] := hl
  refine lv_aload_n hx hb dL_many_0 rfl (lv_at hl 2 rfl) ?_
  refine lv_iconst (v := 0) hx hb dL_many_1 (by decide) ?_
  refine lv_aload_n hx hb dL_many_2 rfl (lv_at hl 0 rfl) ?_
  refine lv_iload_n hx hb dL_many_3 rfl (lv_at hl 1 rfl) ?_
  have hPc := hP.sub (ws' := [(h0, .inr (9, [.ref qm, .ref qt, .ref qw, .ref qc, .ref qb, .ref qg, .int 0, .int 0, .int 0, .int 0, .int 0]))]) [0] rfl
  have hDc := hD.sub (ws' := [(h0, .inr (9, [.ref qm, .ref qt, .ref qw, .ref qc, .ref qb, .ref qg, .int 0, .int 0, .int 0, .int 0, .int 0]))]) [0] (by decide) rfl
  have hKc := hK.sub (tys' := []) [] rfl
  have hFc := va_free (wc := [(h0, .inr (9, [.ref qm, .ref qt, .ref qw, .ref qc, .ref qb, .ref qg, .int 0, .int 0, .int 0, .int 0, .int 0]))]) hD hS hA [0] rfl
  have hZc := ((hZ.kept hS.2.1).narrow hFc)
  refine va_calli (va_runV (As := [.int 5]) (rest := [.int 0, .ref qo]) ⟨hx, hb, hml, hown, hts⟩ (c_X7_many_5 l hnt dC dI a0 h0 qm qt qw qc qb qg s.heap.size ) (cwV 1 hts (goodIn_of _ (by decide +kernel)) rfl rfl rfl (by decide +kernel) ⟨Nat.le_of_ble_eq_true rfl, Nat.le_of_ble_eq_true rfl⟩) ⟨fun a U g mk q => by obtain ⟨q0, q1, qP, qK, qD, qZ⟩ := q; exact ⟨q0, q1, qP, va_K.moved (u := U) (U := U.calling g mk a) (Vm.Alike.refl U.vm) qK, qD, qZ.call⟩, va_recv hKc hPc (ci := 9) (q0 := 0) rfl rfl, fun U hU hW => ⟨rfl, by rw [hU], by rw [hU]; exact hPc, va_K.moved hW.alike hKc, hDc.weaken (fun _ _ _ _ => trivial), by rw [hU]; exact hZc.warm hW⟩⟩ rfl rfl hl.1 rfl (lv_room (Nat.le_of_ble_eq_true rfl)) dL_many_4 ⟨Nat.le_of_ble_eq_true rfl, Nat.le_of_ble_eq_true rfl⟩) hS (fun q _ h => hFc q h) hFc (fun r_1 u t H1 locs ht hvm hw hB hz1 hk1 hS => ?_)
  obtain ⟨hP1, hK1, hD1⟩ := hB
  rw [ht] at hP1
  have hK1 := va_K.moved hvm.symm hK1
  obtain ⟨hP, hD⟩ := va_join (wr := [(qo, .inl (cL, 1, .inr (.inl (fun _ => 0))))]) (w1 := [(h0, .inr (9, [.ref qm, .ref qt, .ref qw, .ref qc, .ref qb, .ref qg, .int 0, .int 0, .int 0, .int 0, .int 0]))]) hP hD [0] [1] rfl rfl (by decide) (by decide) hk1 hFc hP1 hD1
  have hK := (hK.sub (tys' := [(cL, .long)]) [0] rfl).app hK1
  generalize H1 = H at hP hS ⊢
  have hP : va_P (dC, dI) vwCl [(qo, .inl (cL, 1, .inr (.inl (fun _ => 0)))), (h0, .inr (9, [.ref qm, .ref qt, .ref qw, .ref qc, .ref qb, .ref qg, .int 0, .int 0, .int 0, .int 0, .int 0]))] H := hP
  have hD : va_D A [(qo, .inl (cL, 1, .inr (.inl (fun _ => 0)))), (h0, .inr (9, [.ref qm, .ref qt, .ref qw, .ref qc, .ref qb, .ref qg, .int 0, .int 0, .int 0, .int 0, .int 0]))] := hD
  have hK : va_K (dC, dI) vwCl [(cL, .long)] s := hK
  refine W.widen (k := 0) (n := 0) (Nat.le_of_ble_eq_true rfl) (Nat.le_of_ble_eq_true rfl) ?_
  obtain rfl : r_1 = 0 := hw
  refine lv_i2l (v := 0) hx hb dL_many_7 (by decide) ?_
  refine va_last hx hb hK hP hD hS 0 0 rfl rfl (by unfold vp_in; decide) dL_many_8 (fun H locs hP hD hS => ?_)
  have hP : va_P (dC, dI) vwCl [(qo, .inl (cL, 1, .inr (.inl (vp_updL (fun _ => 0) ((0 : Int32).toNatClampNeg) 0)))), (h0, .inr (9, [.ref qm, .ref qt, .ref qw, .ref qc, .ref qb, .ref qg, .int 0, .int 0, .int 0, .int 0, .int 0]))] H := hP
  have hD : va_D A [(qo, .inl (cL, 1, .inr (.inl (vp_updL (fun _ => 0) ((0 : Int32).toNatClampNeg) 0)))), (h0, .inr (9, [.ref qm, .ref qt, .ref qw, .ref qc, .ref qb, .ref qg, .int 0, .int 0, .int 0, .int 0, .int 0]))] := hD
  refine lv_goto (tgt := 15) hx hb dL_many_9 (by decide) ?_
  refine lv_iconst (v := 0) hx hb dL_many_15 (by decide) ?_
  have hP9 := hP.sub (ws' := [(qo, .inl (cL, 1, .inr (.inl (vp_updL (fun _ => 0) ((0 : Int32).toNatClampNeg) 0))))]) [0] rfl
  have hD9 := hD.sub (ws' := [(qo, .inl (cL, 1, .inr (.inl (vp_updL (fun _ => 0) ((0 : Int32).toNatClampNeg) 0))))]) [0] (by decide) rfl
  have hK9 := hK.sub (tys' := [(cL, .long)]) [0] rfl
  refine W.widen (k := 0) (n := 0) (Nat.le_of_ble_eq_true rfl) (Nat.le_of_ble_eq_true rfl) ?_
  exact W.iret (v := 0) hx hb hr (fun t ht hW => ⟨⟨0, (), rfl, rfl, ⟨by rw [ht]; exact hP9, va_K.moved hW.alike hK9, hD9⟩⟩, hS.F ht⟩) hS.2.2 dL_many_16

def zs_c_L_many_6 : List Cond := .codeWith yL_many cL_many 4 (some .int) [(0, 9, 12, 13)] :: (([.code yX7_many cX7_many 2 (some .int), .code yX7_isWithin cX7_isWithin 3 (some .boolean), .methodLink RX7 49 yX7_isWithin, .static yX7_isWithin, .initialized RX7, .code yX7_require cX7_require 1 none, .methodLink RX7 53 yX7_require, .static yX7_require, .fieldLink RX7 122 "Haltingale" "tagCount" "I", .methodLink RL 74 yX7_many, .instanceMethod yX7_many, .selects RX7 yX7_many yX7_many] : List Cond) ++ wsX70)
set_option maxHeartbeats 4000000 in
set_option maxRecDepth 100000 in
/-- the law's many -/
theorem c_L_many_6 (l : Launch) (hnt : l.stackTraces = false) (dC : Nat → ClassId) (dI : Nat → Nat → Nat) (a0 : Nat) (h0 : Nat) (qm : Nat) (qt : Nat) (qw : Nat) (qc : Nat) (qb : Nat) (qg : Nat) (qo : Nat) (cL : ClassId) (sz : Nat)  : Met l yL_many zs_c_L_many_6 ({ frames := 2, cells := 0, slots := 0, locals := 43 }) (va_Pc [.ref h0, .int 6, .ref qo] (fun U => U.heap.size = sz ∧ va_P (dC, dI) vwCl [(h0, .inr (9, [.ref qm, .ref qt, .ref qw, .ref qc, .ref qb, .ref qg, .int 0, .int 0, .int 0, .int 0, .int 0])), (qo, .inl (cL, 1, .inr (.inl (fun _ => 0))))] U.heap ∧ va_K (dC, dI) vwCl [(cL, .long)] U ∧ va_D (fun _ => True) [(h0, .inr (9, [.ref qm, .ref qt, .ref qw, .ref qc, .ref qb, .ref qg, .int 0, .int 0, .int 0, .int 0, .int 0])), (qo, .inl (cL, 1, .inr (.inl (fun _ => 0))))] ∧ zB a0 (va_A [(h0, .inr (9, [.ref qm, .ref qt, .ref qw, .ref qc, .ref qb, .ref qg, .int 0, .int 0, .int 0, .int 0, .int 0])), (qo, .inl (cL, 1, .inr (.inl (fun _ => 0))))] sz) U U.heap)) (va_Qi (fun (r : Int32) (_ : Unit) => r = 0) (fun _ t => va_P (dC, dI) vwCl [(qo, .inl (cL, 1, .inr (.inl (vp_updL (fun _ => 0) ((0 : Int32).toNatClampNeg) 0))))] t.heap ∧ va_K (dC, dI) vwCl [(cL, .long)] t ∧ va_D (va_A [(h0, .inr (9, [.ref qm, .ref qt, .ref qw, .ref qc, .ref qb, .ref qg, .int 0, .int 0, .int 0, .int 0, .int 0])), (qo, .inl (cL, 1, .inr (.inl (fun _ => 0))))] sz) [(qo, .inl (cL, 1, .inr (.inl (vp_updL (fun _ => 0) ((0 : Int32).toNatClampNeg) 0))))]) (va_A [(h0, .inr (9, [.ref qm, .ref qt, .ref qw, .ref qc, .ref qb, .ref qg, .int 0, .int 0, .int 0, .int 0, .int 0])), (qo, .inl (cL, 1, .inr (.inl (fun _ => 0))))] sz)) 0 0 (va_A [(h0, .inr (9, [.ref qm, .ref qt, .ref qw, .ref qc, .ref qb, .ref qg, .int 0, .int 0, .int 0, .int 0, .int 0])), (qo, .inl (cL, 1, .inr (.inl (fun _ => 0))))] sz) := by
  refine va_MetW (cc := cL_many) (maxL := 4) (ret := (some .int)) (hh := [(0, 9, 12, 13)]) (by decide) rfl ?_
  intro p e s m args below meth c s₁ B hml hv
  obtain ⟨rfl, hsz, hP, hK, hD0, hZ⟩ := hv
  have hx := B.exec
  have hb := B.bytes
  have hr := B.returns
  have hts := atoms_spec (ws := zs_c_L_many_6) B.pre
  have hown : s.vm.findClass RL = some m.cls := findClass_of_methodNamed B.named
  have hlocks := B.notSynchronized
  subst hsz
  have hD := hD0.self (sz := s.heap.size)
  generalize hAe : va_A [(h0, .inr (9, [.ref qm, .ref qt, .ref qw, .ref qc, .ref qb, .ref qg, .int 0, .int 0, .int 0, .int 0, .int 0])), (qo, .inl (cL, 1, .inr (.inl (fun _ => 0))))] s.heap.size = A at hD hZ ⊢
  have hA : ∀ q : Nat, s.heap.size ≤ q → A q := fun q h => by rw [← hAe]; exact Or.inr h
  have hS : va_S A s.heap s.heap [] := va_S.rf
  have hl := lv_entry ([.ref h0, .int 6, .ref qo]) (n := 4) (Nat.le_of_ble_eq_true rfl)
  rw [lg_entry_eq]
  generalize (lg_sl ([.ref h0, .int 6, .ref qo]) ++ List.replicate (4 - (lg_sl ([.ref h0, .int 6, .ref qo])).length) Slot.unset).toArray = ls at hl ⊢
  have hl : lv_has ls 4 [(0, .ref h0), (1, .int 6), (2, .ref qo)] := hl
  refine lv_aload_n hx hb dL_many_0 rfl (lv_at hl 2 rfl) ?_
  refine lv_iconst (v := 0) hx hb dL_many_1 (by decide) ?_
  refine lv_aload_n hx hb dL_many_2 rfl (lv_at hl 0 rfl) ?_
  refine lv_iload_n hx hb dL_many_3 rfl (lv_at hl 1 rfl) ?_
  have hPc := hP.sub (ws' := [(h0, .inr (9, [.ref qm, .ref qt, .ref qw, .ref qc, .ref qb, .ref qg, .int 0, .int 0, .int 0, .int 0, .int 0]))]) [0] rfl
  have hDc := hD.sub (ws' := [(h0, .inr (9, [.ref qm, .ref qt, .ref qw, .ref qc, .ref qb, .ref qg, .int 0, .int 0, .int 0, .int 0, .int 0]))]) [0] (by decide) rfl
  have hKc := hK.sub (tys' := []) [] rfl
  have hFc := va_free (wc := [(h0, .inr (9, [.ref qm, .ref qt, .ref qw, .ref qc, .ref qb, .ref qg, .int 0, .int 0, .int 0, .int 0, .int 0]))]) hD hS hA [0] rfl
  have hZc := ((hZ.kept hS.2.1).narrow hFc)
  refine va_calli (va_runV (As := [.int 6]) (rest := [.int 0, .ref qo]) ⟨hx, hb, hml, hown, hts⟩ (c_X7_many_6 l hnt dC dI a0 h0 qm qt qw qc qb qg s.heap.size ) (cwV 1 hts (goodIn_of _ (by decide +kernel)) rfl rfl rfl (by decide +kernel) ⟨Nat.le_of_ble_eq_true rfl, Nat.le_of_ble_eq_true rfl⟩) ⟨fun a U g mk q => by obtain ⟨q0, q1, qP, qK, qD, qZ⟩ := q; exact ⟨q0, q1, qP, va_K.moved (u := U) (U := U.calling g mk a) (Vm.Alike.refl U.vm) qK, qD, qZ.call⟩, va_recv hKc hPc (ci := 9) (q0 := 0) rfl rfl, fun U hU hW => ⟨rfl, by rw [hU], by rw [hU]; exact hPc, va_K.moved hW.alike hKc, hDc.weaken (fun _ _ _ _ => trivial), by rw [hU]; exact hZc.warm hW⟩⟩ rfl rfl hl.1 rfl (lv_room (Nat.le_of_ble_eq_true rfl)) dL_many_4 ⟨Nat.le_of_ble_eq_true rfl, Nat.le_of_ble_eq_true rfl⟩) hS (fun q _ h => hFc q h) hFc (fun r_1 u t H1 locs ht hvm hw hB hz1 hk1 hS => ?_)
  obtain ⟨hP1, hK1, hD1⟩ := hB
  rw [ht] at hP1
  have hK1 := va_K.moved hvm.symm hK1
  obtain ⟨hP, hD⟩ := va_join (wr := [(qo, .inl (cL, 1, .inr (.inl (fun _ => 0))))]) (w1 := [(h0, .inr (9, [.ref qm, .ref qt, .ref qw, .ref qc, .ref qb, .ref qg, .int 0, .int 0, .int 0, .int 0, .int 0]))]) hP hD [0] [1] rfl rfl (by decide) (by decide) hk1 hFc hP1 hD1
  have hK := (hK.sub (tys' := [(cL, .long)]) [0] rfl).app hK1
  generalize H1 = H at hP hS ⊢
  have hP : va_P (dC, dI) vwCl [(qo, .inl (cL, 1, .inr (.inl (fun _ => 0)))), (h0, .inr (9, [.ref qm, .ref qt, .ref qw, .ref qc, .ref qb, .ref qg, .int 0, .int 0, .int 0, .int 0, .int 0]))] H := hP
  have hD : va_D A [(qo, .inl (cL, 1, .inr (.inl (fun _ => 0)))), (h0, .inr (9, [.ref qm, .ref qt, .ref qw, .ref qc, .ref qb, .ref qg, .int 0, .int 0, .int 0, .int 0, .int 0]))] := hD
  have hK : va_K (dC, dI) vwCl [(cL, .long)] s := hK
  refine W.widen (k := 0) (n := 0) (Nat.le_of_ble_eq_true rfl) (Nat.le_of_ble_eq_true rfl) ?_
  obtain rfl : r_1 = 0 := hw
  refine lv_i2l (v := 0) hx hb dL_many_7 (by decide) ?_
  refine va_last hx hb hK hP hD hS 0 0 rfl rfl (by unfold vp_in; decide) dL_many_8 (fun H locs hP hD hS => ?_)
  have hP : va_P (dC, dI) vwCl [(qo, .inl (cL, 1, .inr (.inl (vp_updL (fun _ => 0) ((0 : Int32).toNatClampNeg) 0)))), (h0, .inr (9, [.ref qm, .ref qt, .ref qw, .ref qc, .ref qb, .ref qg, .int 0, .int 0, .int 0, .int 0, .int 0]))] H := hP
  have hD : va_D A [(qo, .inl (cL, 1, .inr (.inl (vp_updL (fun _ => 0) ((0 : Int32).toNatClampNeg) 0)))), (h0, .inr (9, [.ref qm, .ref qt, .ref qw, .ref qc, .ref qb, .ref qg, .int 0, .int 0, .int 0, .int 0, .int 0]))] := hD
  refine lv_goto (tgt := 15) hx hb dL_many_9 (by decide) ?_
  refine lv_iconst (v := 0) hx hb dL_many_15 (by decide) ?_
  have hP9 := hP.sub (ws' := [(qo, .inl (cL, 1, .inr (.inl (vp_updL (fun _ => 0) ((0 : Int32).toNatClampNeg) 0))))]) [0] rfl
  have hD9 := hD.sub (ws' := [(qo, .inl (cL, 1, .inr (.inl (vp_updL (fun _ => 0) ((0 : Int32).toNatClampNeg) 0))))]) [0] (by decide) rfl
  have hK9 := hK.sub (tys' := [(cL, .long)]) [0] rfl
  refine W.widen (k := 0) (n := 0) (Nat.le_of_ble_eq_true rfl) (Nat.le_of_ble_eq_true rfl) ?_
  exact W.iret (v := 0) hx hb hr (fun t ht hW => ⟨⟨0, (), rfl, rfl, ⟨by rw [ht]; exact hP9, va_K.moved hW.alike hK9, hD9⟩⟩, hS.F ht⟩) hS.2.2 dL_many_16

def zs_c_L_many_7 : List Cond := .codeWith yL_many cL_many 4 (some .int) [(0, 9, 12, 13)] :: (([.code yX7_many cX7_many 2 (some .int), .code yX7_isWithin cX7_isWithin 3 (some .boolean), .methodLink RX7 49 yX7_isWithin, .static yX7_isWithin, .initialized RX7, .code yX7_require cX7_require 1 none, .methodLink RX7 53 yX7_require, .static yX7_require, .fieldLink RX7 136 "Haltingale" "givenCount" "I", .methodLink RL 74 yX7_many, .instanceMethod yX7_many, .selects RX7 yX7_many yX7_many] : List Cond) ++ wsX70)
set_option maxHeartbeats 4000000 in
set_option maxRecDepth 100000 in
/-- the law's many -/
theorem c_L_many_7 (l : Launch) (hnt : l.stackTraces = false) (dC : Nat → ClassId) (dI : Nat → Nat → Nat) (a0 : Nat) (h0 : Nat) (qm : Nat) (qt : Nat) (qw : Nat) (qc : Nat) (qb : Nat) (qg : Nat) (qo : Nat) (cL : ClassId) (sz : Nat)  : Met l yL_many zs_c_L_many_7 ({ frames := 2, cells := 0, slots := 0, locals := 43 }) (va_Pc [.ref h0, .int 7, .ref qo] (fun U => U.heap.size = sz ∧ va_P (dC, dI) vwCl [(h0, .inr (9, [.ref qm, .ref qt, .ref qw, .ref qc, .ref qb, .ref qg, .int 0, .int 0, .int 0, .int 0, .int 0])), (qo, .inl (cL, 1, .inr (.inl (fun _ => 0))))] U.heap ∧ va_K (dC, dI) vwCl [(cL, .long)] U ∧ va_D (fun _ => True) [(h0, .inr (9, [.ref qm, .ref qt, .ref qw, .ref qc, .ref qb, .ref qg, .int 0, .int 0, .int 0, .int 0, .int 0])), (qo, .inl (cL, 1, .inr (.inl (fun _ => 0))))] ∧ zB a0 (va_A [(h0, .inr (9, [.ref qm, .ref qt, .ref qw, .ref qc, .ref qb, .ref qg, .int 0, .int 0, .int 0, .int 0, .int 0])), (qo, .inl (cL, 1, .inr (.inl (fun _ => 0))))] sz) U U.heap)) (va_Qi (fun (r : Int32) (_ : Unit) => r = 0) (fun _ t => va_P (dC, dI) vwCl [(qo, .inl (cL, 1, .inr (.inl (vp_updL (fun _ => 0) ((0 : Int32).toNatClampNeg) 0))))] t.heap ∧ va_K (dC, dI) vwCl [(cL, .long)] t ∧ va_D (va_A [(h0, .inr (9, [.ref qm, .ref qt, .ref qw, .ref qc, .ref qb, .ref qg, .int 0, .int 0, .int 0, .int 0, .int 0])), (qo, .inl (cL, 1, .inr (.inl (fun _ => 0))))] sz) [(qo, .inl (cL, 1, .inr (.inl (vp_updL (fun _ => 0) ((0 : Int32).toNatClampNeg) 0))))]) (va_A [(h0, .inr (9, [.ref qm, .ref qt, .ref qw, .ref qc, .ref qb, .ref qg, .int 0, .int 0, .int 0, .int 0, .int 0])), (qo, .inl (cL, 1, .inr (.inl (fun _ => 0))))] sz)) 0 0 (va_A [(h0, .inr (9, [.ref qm, .ref qt, .ref qw, .ref qc, .ref qb, .ref qg, .int 0, .int 0, .int 0, .int 0, .int 0])), (qo, .inl (cL, 1, .inr (.inl (fun _ => 0))))] sz) := by
  refine va_MetW (cc := cL_many) (maxL := 4) (ret := (some .int)) (hh := [(0, 9, 12, 13)]) (by decide) rfl ?_
  intro p e s m args below meth c s₁ B hml hv
  obtain ⟨rfl, hsz, hP, hK, hD0, hZ⟩ := hv
  have hx := B.exec
  have hb := B.bytes
  have hr := B.returns
  have hts := atoms_spec (ws := zs_c_L_many_7) B.pre
  have hown : s.vm.findClass RL = some m.cls := findClass_of_methodNamed B.named
  have hlocks := B.notSynchronized
  subst hsz
  have hD := hD0.self (sz := s.heap.size)
  generalize hAe : va_A [(h0, .inr (9, [.ref qm, .ref qt, .ref qw, .ref qc, .ref qb, .ref qg, .int 0, .int 0, .int 0, .int 0, .int 0])), (qo, .inl (cL, 1, .inr (.inl (fun _ => 0))))] s.heap.size = A at hD hZ ⊢
  have hA : ∀ q : Nat, s.heap.size ≤ q → A q := fun q h => by rw [← hAe]; exact Or.inr h
  have hS : va_S A s.heap s.heap [] := va_S.rf
  have hl := lv_entry ([.ref h0, .int 7, .ref qo]) (n := 4) (Nat.le_of_ble_eq_true rfl)
  rw [lg_entry_eq]
  generalize (lg_sl ([.ref h0, .int 7, .ref qo]) ++ List.replicate (4 - (lg_sl ([.ref h0, .int 7, .ref qo])).length) Slot.unset).toArray = ls at hl ⊢
  have hl : lv_has ls 4 [(0, .ref h0), (1, .int 7), (2, .ref qo)] := hl
  refine lv_aload_n hx hb dL_many_0 rfl (lv_at hl 2 rfl) ?_
  refine lv_iconst (v := 0) hx hb dL_many_1 (by decide) ?_
  refine lv_aload_n hx hb dL_many_2 rfl (lv_at hl 0 rfl) ?_
  refine lv_iload_n hx hb dL_many_3 rfl (lv_at hl 1 rfl) ?_
  have hPc := hP.sub (ws' := [(h0, .inr (9, [.ref qm, .ref qt, .ref qw, .ref qc, .ref qb, .ref qg, .int 0, .int 0, .int 0, .int 0, .int 0]))]) [0] rfl
  have hDc := hD.sub (ws' := [(h0, .inr (9, [.ref qm, .ref qt, .ref qw, .ref qc, .ref qb, .ref qg, .int 0, .int 0, .int 0, .int 0, .int 0]))]) [0] (by decide) rfl
  have hKc := hK.sub (tys' := []) [] rfl
  have hFc := va_free (wc := [(h0, .inr (9, [.ref qm, .ref qt, .ref qw, .ref qc, .ref qb, .ref qg, .int 0, .int 0, .int 0, .int 0, .int 0]))]) hD hS hA [0] rfl
  have hZc := ((hZ.kept hS.2.1).narrow hFc)
  refine va_calli (va_runV (As := [.int 7]) (rest := [.int 0, .ref qo]) ⟨hx, hb, hml, hown, hts⟩ (c_X7_many_7 l hnt dC dI a0 h0 qm qt qw qc qb qg s.heap.size ) (cwV 1 hts (goodIn_of _ (by decide +kernel)) rfl rfl rfl (by decide +kernel) ⟨Nat.le_of_ble_eq_true rfl, Nat.le_of_ble_eq_true rfl⟩) ⟨fun a U g mk q => by obtain ⟨q0, q1, qP, qK, qD, qZ⟩ := q; exact ⟨q0, q1, qP, va_K.moved (u := U) (U := U.calling g mk a) (Vm.Alike.refl U.vm) qK, qD, qZ.call⟩, va_recv hKc hPc (ci := 9) (q0 := 0) rfl rfl, fun U hU hW => ⟨rfl, by rw [hU], by rw [hU]; exact hPc, va_K.moved hW.alike hKc, hDc.weaken (fun _ _ _ _ => trivial), by rw [hU]; exact hZc.warm hW⟩⟩ rfl rfl hl.1 rfl (lv_room (Nat.le_of_ble_eq_true rfl)) dL_many_4 ⟨Nat.le_of_ble_eq_true rfl, Nat.le_of_ble_eq_true rfl⟩) hS (fun q _ h => hFc q h) hFc (fun r_1 u t H1 locs ht hvm hw hB hz1 hk1 hS => ?_)
  obtain ⟨hP1, hK1, hD1⟩ := hB
  rw [ht] at hP1
  have hK1 := va_K.moved hvm.symm hK1
  obtain ⟨hP, hD⟩ := va_join (wr := [(qo, .inl (cL, 1, .inr (.inl (fun _ => 0))))]) (w1 := [(h0, .inr (9, [.ref qm, .ref qt, .ref qw, .ref qc, .ref qb, .ref qg, .int 0, .int 0, .int 0, .int 0, .int 0]))]) hP hD [0] [1] rfl rfl (by decide) (by decide) hk1 hFc hP1 hD1
  have hK := (hK.sub (tys' := [(cL, .long)]) [0] rfl).app hK1
  generalize H1 = H at hP hS ⊢
  have hP : va_P (dC, dI) vwCl [(qo, .inl (cL, 1, .inr (.inl (fun _ => 0)))), (h0, .inr (9, [.ref qm, .ref qt, .ref qw, .ref qc, .ref qb, .ref qg, .int 0, .int 0, .int 0, .int 0, .int 0]))] H := hP
  have hD : va_D A [(qo, .inl (cL, 1, .inr (.inl (fun _ => 0)))), (h0, .inr (9, [.ref qm, .ref qt, .ref qw, .ref qc, .ref qb, .ref qg, .int 0, .int 0, .int 0, .int 0, .int 0]))] := hD
  have hK : va_K (dC, dI) vwCl [(cL, .long)] s := hK
  refine W.widen (k := 0) (n := 0) (Nat.le_of_ble_eq_true rfl) (Nat.le_of_ble_eq_true rfl) ?_
  obtain rfl : r_1 = 0 := hw
  refine lv_i2l (v := 0) hx hb dL_many_7 (by decide) ?_
  refine va_last hx hb hK hP hD hS 0 0 rfl rfl (by unfold vp_in; decide) dL_many_8 (fun H locs hP hD hS => ?_)
  have hP : va_P (dC, dI) vwCl [(qo, .inl (cL, 1, .inr (.inl (vp_updL (fun _ => 0) ((0 : Int32).toNatClampNeg) 0)))), (h0, .inr (9, [.ref qm, .ref qt, .ref qw, .ref qc, .ref qb, .ref qg, .int 0, .int 0, .int 0, .int 0, .int 0]))] H := hP
  have hD : va_D A [(qo, .inl (cL, 1, .inr (.inl (vp_updL (fun _ => 0) ((0 : Int32).toNatClampNeg) 0)))), (h0, .inr (9, [.ref qm, .ref qt, .ref qw, .ref qc, .ref qb, .ref qg, .int 0, .int 0, .int 0, .int 0, .int 0]))] := hD
  refine lv_goto (tgt := 15) hx hb dL_many_9 (by decide) ?_
  refine lv_iconst (v := 0) hx hb dL_many_15 (by decide) ?_
  have hP9 := hP.sub (ws' := [(qo, .inl (cL, 1, .inr (.inl (vp_updL (fun _ => 0) ((0 : Int32).toNatClampNeg) 0))))]) [0] rfl
  have hD9 := hD.sub (ws' := [(qo, .inl (cL, 1, .inr (.inl (vp_updL (fun _ => 0) ((0 : Int32).toNatClampNeg) 0))))]) [0] (by decide) rfl
  have hK9 := hK.sub (tys' := [(cL, .long)]) [0] rfl
  refine W.widen (k := 0) (n := 0) (Nat.le_of_ble_eq_true rfl) (Nat.le_of_ble_eq_true rfl) ?_
  exact W.iret (v := 0) hx hb hr (fun t ht hW => ⟨⟨0, (), rfl, rfl, ⟨by rw [ht]; exact hP9, va_K.moved hW.alike hK9, hD9⟩⟩, hS.F ht⟩) hS.2.2 dL_many_16

def zs_c_L_many_8 : List Cond := .codeWith yL_many cL_many 4 (some .int) [(0, 9, 12, 13)] :: (([.code yX7_many cX7_many 2 (some .int), .code yX7_isWithin cX7_isWithin 3 (some .boolean), .methodLink RX7 49 yX7_isWithin, .static yX7_isWithin, .initialized RX7, .code yX7_require cX7_require 1 none, .methodLink RX7 53 yX7_require, .static yX7_require, .fieldLink RX7 142 "Haltingale" "takenCount" "I", .methodLink RL 74 yX7_many, .instanceMethod yX7_many, .selects RX7 yX7_many yX7_many] : List Cond) ++ wsX70)
set_option maxHeartbeats 4000000 in
set_option maxRecDepth 100000 in
/-- the law's many -/
theorem c_L_many_8 (l : Launch) (hnt : l.stackTraces = false) (dC : Nat → ClassId) (dI : Nat → Nat → Nat) (a0 : Nat) (h0 : Nat) (qm : Nat) (qt : Nat) (qw : Nat) (qc : Nat) (qb : Nat) (qg : Nat) (qo : Nat) (cL : ClassId) (sz : Nat)  : Met l yL_many zs_c_L_many_8 ({ frames := 2, cells := 0, slots := 0, locals := 43 }) (va_Pc [.ref h0, .int 8, .ref qo] (fun U => U.heap.size = sz ∧ va_P (dC, dI) vwCl [(h0, .inr (9, [.ref qm, .ref qt, .ref qw, .ref qc, .ref qb, .ref qg, .int 0, .int 0, .int 0, .int 0, .int 0])), (qo, .inl (cL, 1, .inr (.inl (fun _ => 0))))] U.heap ∧ va_K (dC, dI) vwCl [(cL, .long)] U ∧ va_D (fun _ => True) [(h0, .inr (9, [.ref qm, .ref qt, .ref qw, .ref qc, .ref qb, .ref qg, .int 0, .int 0, .int 0, .int 0, .int 0])), (qo, .inl (cL, 1, .inr (.inl (fun _ => 0))))] ∧ zB a0 (va_A [(h0, .inr (9, [.ref qm, .ref qt, .ref qw, .ref qc, .ref qb, .ref qg, .int 0, .int 0, .int 0, .int 0, .int 0])), (qo, .inl (cL, 1, .inr (.inl (fun _ => 0))))] sz) U U.heap)) (va_Qi (fun (r : Int32) (_ : Unit) => r = 0) (fun _ t => va_P (dC, dI) vwCl [(qo, .inl (cL, 1, .inr (.inl (vp_updL (fun _ => 0) ((0 : Int32).toNatClampNeg) 0))))] t.heap ∧ va_K (dC, dI) vwCl [(cL, .long)] t ∧ va_D (va_A [(h0, .inr (9, [.ref qm, .ref qt, .ref qw, .ref qc, .ref qb, .ref qg, .int 0, .int 0, .int 0, .int 0, .int 0])), (qo, .inl (cL, 1, .inr (.inl (fun _ => 0))))] sz) [(qo, .inl (cL, 1, .inr (.inl (vp_updL (fun _ => 0) ((0 : Int32).toNatClampNeg) 0))))]) (va_A [(h0, .inr (9, [.ref qm, .ref qt, .ref qw, .ref qc, .ref qb, .ref qg, .int 0, .int 0, .int 0, .int 0, .int 0])), (qo, .inl (cL, 1, .inr (.inl (fun _ => 0))))] sz)) 0 0 (va_A [(h0, .inr (9, [.ref qm, .ref qt, .ref qw, .ref qc, .ref qb, .ref qg, .int 0, .int 0, .int 0, .int 0, .int 0])), (qo, .inl (cL, 1, .inr (.inl (fun _ => 0))))] sz) := by
  refine va_MetW (cc := cL_many) (maxL := 4) (ret := (some .int)) (hh := [(0, 9, 12, 13)]) (by decide) rfl ?_
  intro p e s m args below meth c s₁ B hml hv
  obtain ⟨rfl, hsz, hP, hK, hD0, hZ⟩ := hv
  have hx := B.exec
  have hb := B.bytes
  have hr := B.returns
  have hts := atoms_spec (ws := zs_c_L_many_8) B.pre
  have hown : s.vm.findClass RL = some m.cls := findClass_of_methodNamed B.named
  have hlocks := B.notSynchronized
  subst hsz
  have hD := hD0.self (sz := s.heap.size)
  generalize hAe : va_A [(h0, .inr (9, [.ref qm, .ref qt, .ref qw, .ref qc, .ref qb, .ref qg, .int 0, .int 0, .int 0, .int 0, .int 0])), (qo, .inl (cL, 1, .inr (.inl (fun _ => 0))))] s.heap.size = A at hD hZ ⊢
  have hA : ∀ q : Nat, s.heap.size ≤ q → A q := fun q h => by rw [← hAe]; exact Or.inr h
  have hS : va_S A s.heap s.heap [] := va_S.rf
  have hl := lv_entry ([.ref h0, .int 8, .ref qo]) (n := 4) (Nat.le_of_ble_eq_true rfl)
  rw [lg_entry_eq]
  generalize (lg_sl ([.ref h0, .int 8, .ref qo]) ++ List.replicate (4 - (lg_sl ([.ref h0, .int 8, .ref qo])).length) Slot.unset).toArray = ls at hl ⊢
  have hl : lv_has ls 4 [(0, .ref h0), (1, .int 8), (2, .ref qo)] := hl
  refine lv_aload_n hx hb dL_many_0 rfl (lv_at hl 2 rfl) ?_
  refine lv_iconst (v := 0) hx hb dL_many_1 (by decide) ?_
  refine lv_aload_n hx hb dL_many_2 rfl (lv_at hl 0 rfl) ?_
  refine lv_iload_n hx hb dL_many_3 rfl (lv_at hl 1 rfl) ?_
  have hPc := hP.sub (ws' := [(h0, .inr (9, [.ref qm, .ref qt, .ref qw, .ref qc, .ref qb, .ref qg, .int 0, .int 0, .int 0, .int 0, .int 0]))]) [0] rfl
  have hDc := hD.sub (ws' := [(h0, .inr (9, [.ref qm, .ref qt, .ref qw, .ref qc, .ref qb, .ref qg, .int 0, .int 0, .int 0, .int 0, .int 0]))]) [0] (by decide) rfl
  have hKc := hK.sub (tys' := []) [] rfl
  have hFc := va_free (wc := [(h0, .inr (9, [.ref qm, .ref qt, .ref qw, .ref qc, .ref qb, .ref qg, .int 0, .int 0, .int 0, .int 0, .int 0]))]) hD hS hA [0] rfl
  have hZc := ((hZ.kept hS.2.1).narrow hFc)
  refine va_calli (va_runV (As := [.int 8]) (rest := [.int 0, .ref qo]) ⟨hx, hb, hml, hown, hts⟩ (c_X7_many_8 l hnt dC dI a0 h0 qm qt qw qc qb qg s.heap.size ) (cwV 1 hts (goodIn_of _ (by decide +kernel)) rfl rfl rfl (by decide +kernel) ⟨Nat.le_of_ble_eq_true rfl, Nat.le_of_ble_eq_true rfl⟩) ⟨fun a U g mk q => by obtain ⟨q0, q1, qP, qK, qD, qZ⟩ := q; exact ⟨q0, q1, qP, va_K.moved (u := U) (U := U.calling g mk a) (Vm.Alike.refl U.vm) qK, qD, qZ.call⟩, va_recv hKc hPc (ci := 9) (q0 := 0) rfl rfl, fun U hU hW => ⟨rfl, by rw [hU], by rw [hU]; exact hPc, va_K.moved hW.alike hKc, hDc.weaken (fun _ _ _ _ => trivial), by rw [hU]; exact hZc.warm hW⟩⟩ rfl rfl hl.1 rfl (lv_room (Nat.le_of_ble_eq_true rfl)) dL_many_4 ⟨Nat.le_of_ble_eq_true rfl, Nat.le_of_ble_eq_true rfl⟩) hS (fun q _ h => hFc q h) hFc (fun r_1 u t H1 locs ht hvm hw hB hz1 hk1 hS => ?_)
  obtain ⟨hP1, hK1, hD1⟩ := hB
  rw [ht] at hP1
  have hK1 := va_K.moved hvm.symm hK1
  obtain ⟨hP, hD⟩ := va_join (wr := [(qo, .inl (cL, 1, .inr (.inl (fun _ => 0))))]) (w1 := [(h0, .inr (9, [.ref qm, .ref qt, .ref qw, .ref qc, .ref qb, .ref qg, .int 0, .int 0, .int 0, .int 0, .int 0]))]) hP hD [0] [1] rfl rfl (by decide) (by decide) hk1 hFc hP1 hD1
  have hK := (hK.sub (tys' := [(cL, .long)]) [0] rfl).app hK1
  generalize H1 = H at hP hS ⊢
  have hP : va_P (dC, dI) vwCl [(qo, .inl (cL, 1, .inr (.inl (fun _ => 0)))), (h0, .inr (9, [.ref qm, .ref qt, .ref qw, .ref qc, .ref qb, .ref qg, .int 0, .int 0, .int 0, .int 0, .int 0]))] H := hP
  have hD : va_D A [(qo, .inl (cL, 1, .inr (.inl (fun _ => 0)))), (h0, .inr (9, [.ref qm, .ref qt, .ref qw, .ref qc, .ref qb, .ref qg, .int 0, .int 0, .int 0, .int 0, .int 0]))] := hD
  have hK : va_K (dC, dI) vwCl [(cL, .long)] s := hK
  refine W.widen (k := 0) (n := 0) (Nat.le_of_ble_eq_true rfl) (Nat.le_of_ble_eq_true rfl) ?_
  obtain rfl : r_1 = 0 := hw
  refine lv_i2l (v := 0) hx hb dL_many_7 (by decide) ?_
  refine va_last hx hb hK hP hD hS 0 0 rfl rfl (by unfold vp_in; decide) dL_many_8 (fun H locs hP hD hS => ?_)
  have hP : va_P (dC, dI) vwCl [(qo, .inl (cL, 1, .inr (.inl (vp_updL (fun _ => 0) ((0 : Int32).toNatClampNeg) 0)))), (h0, .inr (9, [.ref qm, .ref qt, .ref qw, .ref qc, .ref qb, .ref qg, .int 0, .int 0, .int 0, .int 0, .int 0]))] H := hP
  have hD : va_D A [(qo, .inl (cL, 1, .inr (.inl (vp_updL (fun _ => 0) ((0 : Int32).toNatClampNeg) 0)))), (h0, .inr (9, [.ref qm, .ref qt, .ref qw, .ref qc, .ref qb, .ref qg, .int 0, .int 0, .int 0, .int 0, .int 0]))] := hD
  refine lv_goto (tgt := 15) hx hb dL_many_9 (by decide) ?_
  refine lv_iconst (v := 0) hx hb dL_many_15 (by decide) ?_
  have hP9 := hP.sub (ws' := [(qo, .inl (cL, 1, .inr (.inl (vp_updL (fun _ => 0) ((0 : Int32).toNatClampNeg) 0))))]) [0] rfl
  have hD9 := hD.sub (ws' := [(qo, .inl (cL, 1, .inr (.inl (vp_updL (fun _ => 0) ((0 : Int32).toNatClampNeg) 0))))]) [0] (by decide) rfl
  have hK9 := hK.sub (tys' := [(cL, .long)]) [0] rfl
  refine W.widen (k := 0) (n := 0) (Nat.le_of_ble_eq_true rfl) (Nat.le_of_ble_eq_true rfl) ?_
  exact W.iret (v := 0) hx hb hr (fun t ht hW => ⟨⟨0, (), rfl, rfl, ⟨by rw [ht]; exact hP9, va_K.moved hW.alike hK9, hD9⟩⟩, hS.F ht⟩) hS.2.2 dL_many_16

def zs_c_L_many_9 : List Cond := .codeWith yL_many cL_many 4 (some .int) [(0, 9, 12, 13)] :: (([.code yX7_many cX7_many 2 (some .int), .code yX7_isWithin cX7_isWithin 3 (some .boolean), .methodLink RX7 49 yX7_isWithin, .static yX7_isWithin, .initialized RX7, .code yX7_require cX7_require 1 none, .methodLink RX7 53 yX7_require, .static yX7_require, .fieldLink RX7 255 "Haltingale" "takenBackCount" "I", .methodLink RL 74 yX7_many, .instanceMethod yX7_many, .selects RX7 yX7_many yX7_many] : List Cond) ++ wsX70)
set_option maxHeartbeats 4000000 in
set_option maxRecDepth 100000 in
/-- the law's many -/
theorem c_L_many_9 (l : Launch) (hnt : l.stackTraces = false) (dC : Nat → ClassId) (dI : Nat → Nat → Nat) (a0 : Nat) (h0 : Nat) (qm : Nat) (qt : Nat) (qw : Nat) (qc : Nat) (qb : Nat) (qg : Nat) (qo : Nat) (cL : ClassId) (sz : Nat)  : Met l yL_many zs_c_L_many_9 ({ frames := 2, cells := 0, slots := 0, locals := 43 }) (va_Pc [.ref h0, .int 9, .ref qo] (fun U => U.heap.size = sz ∧ va_P (dC, dI) vwCl [(h0, .inr (9, [.ref qm, .ref qt, .ref qw, .ref qc, .ref qb, .ref qg, .int 0, .int 0, .int 0, .int 0, .int 0])), (qo, .inl (cL, 1, .inr (.inl (fun _ => 0))))] U.heap ∧ va_K (dC, dI) vwCl [(cL, .long)] U ∧ va_D (fun _ => True) [(h0, .inr (9, [.ref qm, .ref qt, .ref qw, .ref qc, .ref qb, .ref qg, .int 0, .int 0, .int 0, .int 0, .int 0])), (qo, .inl (cL, 1, .inr (.inl (fun _ => 0))))] ∧ zB a0 (va_A [(h0, .inr (9, [.ref qm, .ref qt, .ref qw, .ref qc, .ref qb, .ref qg, .int 0, .int 0, .int 0, .int 0, .int 0])), (qo, .inl (cL, 1, .inr (.inl (fun _ => 0))))] sz) U U.heap)) (va_Qi (fun (r : Int32) (_ : Unit) => r = 0) (fun _ t => va_P (dC, dI) vwCl [(qo, .inl (cL, 1, .inr (.inl (vp_updL (fun _ => 0) ((0 : Int32).toNatClampNeg) 0))))] t.heap ∧ va_K (dC, dI) vwCl [(cL, .long)] t ∧ va_D (va_A [(h0, .inr (9, [.ref qm, .ref qt, .ref qw, .ref qc, .ref qb, .ref qg, .int 0, .int 0, .int 0, .int 0, .int 0])), (qo, .inl (cL, 1, .inr (.inl (fun _ => 0))))] sz) [(qo, .inl (cL, 1, .inr (.inl (vp_updL (fun _ => 0) ((0 : Int32).toNatClampNeg) 0))))]) (va_A [(h0, .inr (9, [.ref qm, .ref qt, .ref qw, .ref qc, .ref qb, .ref qg, .int 0, .int 0, .int 0, .int 0, .int 0])), (qo, .inl (cL, 1, .inr (.inl (fun _ => 0))))] sz)) 0 0 (va_A [(h0, .inr (9, [.ref qm, .ref qt, .ref qw, .ref qc, .ref qb, .ref qg, .int 0, .int 0, .int 0, .int 0, .int 0])), (qo, .inl (cL, 1, .inr (.inl (fun _ => 0))))] sz) := by
  refine va_MetW (cc := cL_many) (maxL := 4) (ret := (some .int)) (hh := [(0, 9, 12, 13)]) (by decide) rfl ?_
  intro p e s m args below meth c s₁ B hml hv
  obtain ⟨rfl, hsz, hP, hK, hD0, hZ⟩ := hv
  have hx := B.exec
  have hb := B.bytes
  have hr := B.returns
  have hts := atoms_spec (ws := zs_c_L_many_9) B.pre
  have hown : s.vm.findClass RL = some m.cls := findClass_of_methodNamed B.named
  have hlocks := B.notSynchronized
  subst hsz
  have hD := hD0.self (sz := s.heap.size)
  generalize hAe : va_A [(h0, .inr (9, [.ref qm, .ref qt, .ref qw, .ref qc, .ref qb, .ref qg, .int 0, .int 0, .int 0, .int 0, .int 0])), (qo, .inl (cL, 1, .inr (.inl (fun _ => 0))))] s.heap.size = A at hD hZ ⊢
  have hA : ∀ q : Nat, s.heap.size ≤ q → A q := fun q h => by rw [← hAe]; exact Or.inr h
  have hS : va_S A s.heap s.heap [] := va_S.rf
  have hl := lv_entry ([.ref h0, .int 9, .ref qo]) (n := 4) (Nat.le_of_ble_eq_true rfl)
  rw [lg_entry_eq]
  generalize (lg_sl ([.ref h0, .int 9, .ref qo]) ++ List.replicate (4 - (lg_sl ([.ref h0, .int 9, .ref qo])).length) Slot.unset).toArray = ls at hl ⊢
  have hl : lv_has ls 4 [(0, .ref h0), (1, .int 9), (2, .ref qo)] := hl
  refine lv_aload_n hx hb dL_many_0 rfl (lv_at hl 2 rfl) ?_
  refine lv_iconst (v := 0) hx hb dL_many_1 (by decide) ?_
  refine lv_aload_n hx hb dL_many_2 rfl (lv_at hl 0 rfl) ?_
  refine lv_iload_n hx hb dL_many_3 rfl (lv_at hl 1 rfl) ?_
  have hPc := hP.sub (ws' := [(h0, .inr (9, [.ref qm, .ref qt, .ref qw, .ref qc, .ref qb, .ref qg, .int 0, .int 0, .int 0, .int 0, .int 0]))]) [0] rfl
  have hDc := hD.sub (ws' := [(h0, .inr (9, [.ref qm, .ref qt, .ref qw, .ref qc, .ref qb, .ref qg, .int 0, .int 0, .int 0, .int 0, .int 0]))]) [0] (by decide) rfl
  have hKc := hK.sub (tys' := []) [] rfl
  have hFc := va_free (wc := [(h0, .inr (9, [.ref qm, .ref qt, .ref qw, .ref qc, .ref qb, .ref qg, .int 0, .int 0, .int 0, .int 0, .int 0]))]) hD hS hA [0] rfl
  have hZc := ((hZ.kept hS.2.1).narrow hFc)
  refine va_calli (va_runV (As := [.int 9]) (rest := [.int 0, .ref qo]) ⟨hx, hb, hml, hown, hts⟩ (c_X7_many_9 l hnt dC dI a0 h0 qm qt qw qc qb qg s.heap.size ) (cwV 1 hts (goodIn_of _ (by decide +kernel)) rfl rfl rfl (by decide +kernel) ⟨Nat.le_of_ble_eq_true rfl, Nat.le_of_ble_eq_true rfl⟩) ⟨fun a U g mk q => by obtain ⟨q0, q1, qP, qK, qD, qZ⟩ := q; exact ⟨q0, q1, qP, va_K.moved (u := U) (U := U.calling g mk a) (Vm.Alike.refl U.vm) qK, qD, qZ.call⟩, va_recv hKc hPc (ci := 9) (q0 := 0) rfl rfl, fun U hU hW => ⟨rfl, by rw [hU], by rw [hU]; exact hPc, va_K.moved hW.alike hKc, hDc.weaken (fun _ _ _ _ => trivial), by rw [hU]; exact hZc.warm hW⟩⟩ rfl rfl hl.1 rfl (lv_room (Nat.le_of_ble_eq_true rfl)) dL_many_4 ⟨Nat.le_of_ble_eq_true rfl, Nat.le_of_ble_eq_true rfl⟩) hS (fun q _ h => hFc q h) hFc (fun r_1 u t H1 locs ht hvm hw hB hz1 hk1 hS => ?_)
  obtain ⟨hP1, hK1, hD1⟩ := hB
  rw [ht] at hP1
  have hK1 := va_K.moved hvm.symm hK1
  obtain ⟨hP, hD⟩ := va_join (wr := [(qo, .inl (cL, 1, .inr (.inl (fun _ => 0))))]) (w1 := [(h0, .inr (9, [.ref qm, .ref qt, .ref qw, .ref qc, .ref qb, .ref qg, .int 0, .int 0, .int 0, .int 0, .int 0]))]) hP hD [0] [1] rfl rfl (by decide) (by decide) hk1 hFc hP1 hD1
  have hK := (hK.sub (tys' := [(cL, .long)]) [0] rfl).app hK1
  generalize H1 = H at hP hS ⊢
  have hP : va_P (dC, dI) vwCl [(qo, .inl (cL, 1, .inr (.inl (fun _ => 0)))), (h0, .inr (9, [.ref qm, .ref qt, .ref qw, .ref qc, .ref qb, .ref qg, .int 0, .int 0, .int 0, .int 0, .int 0]))] H := hP
  have hD : va_D A [(qo, .inl (cL, 1, .inr (.inl (fun _ => 0)))), (h0, .inr (9, [.ref qm, .ref qt, .ref qw, .ref qc, .ref qb, .ref qg, .int 0, .int 0, .int 0, .int 0, .int 0]))] := hD
  have hK : va_K (dC, dI) vwCl [(cL, .long)] s := hK
  refine W.widen (k := 0) (n := 0) (Nat.le_of_ble_eq_true rfl) (Nat.le_of_ble_eq_true rfl) ?_
  obtain rfl : r_1 = 0 := hw
  refine lv_i2l (v := 0) hx hb dL_many_7 (by decide) ?_
  refine va_last hx hb hK hP hD hS 0 0 rfl rfl (by unfold vp_in; decide) dL_many_8 (fun H locs hP hD hS => ?_)
  have hP : va_P (dC, dI) vwCl [(qo, .inl (cL, 1, .inr (.inl (vp_updL (fun _ => 0) ((0 : Int32).toNatClampNeg) 0)))), (h0, .inr (9, [.ref qm, .ref qt, .ref qw, .ref qc, .ref qb, .ref qg, .int 0, .int 0, .int 0, .int 0, .int 0]))] H := hP
  have hD : va_D A [(qo, .inl (cL, 1, .inr (.inl (vp_updL (fun _ => 0) ((0 : Int32).toNatClampNeg) 0)))), (h0, .inr (9, [.ref qm, .ref qt, .ref qw, .ref qc, .ref qb, .ref qg, .int 0, .int 0, .int 0, .int 0, .int 0]))] := hD
  refine lv_goto (tgt := 15) hx hb dL_many_9 (by decide) ?_
  refine lv_iconst (v := 0) hx hb dL_many_15 (by decide) ?_
  have hP9 := hP.sub (ws' := [(qo, .inl (cL, 1, .inr (.inl (vp_updL (fun _ => 0) ((0 : Int32).toNatClampNeg) 0))))]) [0] rfl
  have hD9 := hD.sub (ws' := [(qo, .inl (cL, 1, .inr (.inl (vp_updL (fun _ => 0) ((0 : Int32).toNatClampNeg) 0))))]) [0] (by decide) rfl
  have hK9 := hK.sub (tys' := [(cL, .long)]) [0] rfl
  refine W.widen (k := 0) (n := 0) (Nat.le_of_ble_eq_true rfl) (Nat.le_of_ble_eq_true rfl) ?_
  exact W.iret (v := 0) hx hb hr (fun t ht hW => ⟨⟨0, (), rfl, rfl, ⟨by rw [ht]; exact hP9, va_K.moved hW.alike hK9, hD9⟩⟩, hS.F ht⟩) hS.2.2 dL_many_16

def zs_c_L_many_10 : List Cond := .codeWith yL_many cL_many 4 (some .int) [(0, 9, 12, 13)] :: (([.code yX7_many cX7_many 2 (some .int), .code yX7_isWithin cX7_isWithin 3 (some .boolean), .methodLink RX7 49 yX7_isWithin, .static yX7_isWithin, .initialized RX7, .code yX7_require cX7_require 1 none, .methodLink RX7 53 yX7_require, .static yX7_require, .code yX7_countEmptyCells cX7_countEmptyCells 3 (some .int), .fieldLink RX7 148 "Haltingale" "machineCount" "I", .methodLink RX7 258 yX7_countEmptyCells, .instanceMethod yX7_countEmptyCells, .selects RX7 yX7_countEmptyCells yX7_countEmptyCells, .methodLink RL 74 yX7_many, .instanceMethod yX7_many, .selects RX7 yX7_many yX7_many] : List Cond) ++ wsX70)
set_option maxHeartbeats 4000000 in
set_option maxRecDepth 100000 in
/-- the law's many -/
theorem c_L_many_10 (l : Launch) (hnt : l.stackTraces = false) (dC : Nat → ClassId) (dI : Nat → Nat → Nat) (a0 : Nat) (h0 : Nat) (qm : Nat) (qt : Nat) (qw : Nat) (qc : Nat) (qb : Nat) (qg : Nat) (qo : Nat) (cL : ClassId) (sz : Nat)  : Met l yL_many zs_c_L_many_10 ({ frames := 2, cells := 0, slots := 0, locals := 43 }) (va_Pc [.ref h0, .int 10, .ref qo] (fun U => U.heap.size = sz ∧ va_P (dC, dI) vwCl [(h0, .inr (9, [.ref qm, .ref qt, .ref qw, .ref qc, .ref qb, .ref qg, .int 0, .int 0, .int 0, .int 0, .int 0])), (qo, .inl (cL, 1, .inr (.inl (fun _ => 0))))] U.heap ∧ va_K (dC, dI) vwCl [(cL, .long)] U ∧ va_D (fun _ => True) [(h0, .inr (9, [.ref qm, .ref qt, .ref qw, .ref qc, .ref qb, .ref qg, .int 0, .int 0, .int 0, .int 0, .int 0])), (qo, .inl (cL, 1, .inr (.inl (fun _ => 0))))] ∧ zB a0 (va_A [(h0, .inr (9, [.ref qm, .ref qt, .ref qw, .ref qc, .ref qb, .ref qg, .int 0, .int 0, .int 0, .int 0, .int 0])), (qo, .inl (cL, 1, .inr (.inl (fun _ => 0))))] sz) U U.heap)) (va_Qi (fun (r : Int32) (_ : Unit) => r = 0) (fun _ t => va_P (dC, dI) vwCl [(qo, .inl (cL, 1, .inr (.inl (vp_updL (fun _ => 0) ((0 : Int32).toNatClampNeg) 0))))] t.heap ∧ va_K (dC, dI) vwCl [(cL, .long)] t ∧ va_D (va_A [(h0, .inr (9, [.ref qm, .ref qt, .ref qw, .ref qc, .ref qb, .ref qg, .int 0, .int 0, .int 0, .int 0, .int 0])), (qo, .inl (cL, 1, .inr (.inl (fun _ => 0))))] sz) [(qo, .inl (cL, 1, .inr (.inl (vp_updL (fun _ => 0) ((0 : Int32).toNatClampNeg) 0))))]) (va_A [(h0, .inr (9, [.ref qm, .ref qt, .ref qw, .ref qc, .ref qb, .ref qg, .int 0, .int 0, .int 0, .int 0, .int 0])), (qo, .inl (cL, 1, .inr (.inl (fun _ => 0))))] sz)) 0 0 (va_A [(h0, .inr (9, [.ref qm, .ref qt, .ref qw, .ref qc, .ref qb, .ref qg, .int 0, .int 0, .int 0, .int 0, .int 0])), (qo, .inl (cL, 1, .inr (.inl (fun _ => 0))))] sz) := by
  refine va_MetW (cc := cL_many) (maxL := 4) (ret := (some .int)) (hh := [(0, 9, 12, 13)]) (by decide) rfl ?_
  intro p e s m args below meth c s₁ B hml hv
  obtain ⟨rfl, hsz, hP, hK, hD0, hZ⟩ := hv
  have hx := B.exec
  have hb := B.bytes
  have hr := B.returns
  have hts := atoms_spec (ws := zs_c_L_many_10) B.pre
  have hown : s.vm.findClass RL = some m.cls := findClass_of_methodNamed B.named
  have hlocks := B.notSynchronized
  subst hsz
  have hD := hD0.self (sz := s.heap.size)
  generalize hAe : va_A [(h0, .inr (9, [.ref qm, .ref qt, .ref qw, .ref qc, .ref qb, .ref qg, .int 0, .int 0, .int 0, .int 0, .int 0])), (qo, .inl (cL, 1, .inr (.inl (fun _ => 0))))] s.heap.size = A at hD hZ ⊢
  have hA : ∀ q : Nat, s.heap.size ≤ q → A q := fun q h => by rw [← hAe]; exact Or.inr h
  have hS : va_S A s.heap s.heap [] := va_S.rf
  have hl := lv_entry ([.ref h0, .int 10, .ref qo]) (n := 4) (Nat.le_of_ble_eq_true rfl)
  rw [lg_entry_eq]
  generalize (lg_sl ([.ref h0, .int 10, .ref qo]) ++ List.replicate (4 - (lg_sl ([.ref h0, .int 10, .ref qo])).length) Slot.unset).toArray = ls at hl ⊢
  have hl : lv_has ls 4 [(0, .ref h0), (1, .int 10), (2, .ref qo)] := hl
  refine lv_aload_n hx hb dL_many_0 rfl (lv_at hl 2 rfl) ?_
  refine lv_iconst (v := 0) hx hb dL_many_1 (by decide) ?_
  refine lv_aload_n hx hb dL_many_2 rfl (lv_at hl 0 rfl) ?_
  refine lv_iload_n hx hb dL_many_3 rfl (lv_at hl 1 rfl) ?_
  have hPc := hP.sub (ws' := [(h0, .inr (9, [.ref qm, .ref qt, .ref qw, .ref qc, .ref qb, .ref qg, .int 0, .int 0, .int 0, .int 0, .int 0]))]) [0] rfl
  have hDc := hD.sub (ws' := [(h0, .inr (9, [.ref qm, .ref qt, .ref qw, .ref qc, .ref qb, .ref qg, .int 0, .int 0, .int 0, .int 0, .int 0]))]) [0] (by decide) rfl
  have hKc := hK.sub (tys' := []) [] rfl
  have hFc := va_free (wc := [(h0, .inr (9, [.ref qm, .ref qt, .ref qw, .ref qc, .ref qb, .ref qg, .int 0, .int 0, .int 0, .int 0, .int 0]))]) hD hS hA [0] rfl
  have hZc := ((hZ.kept hS.2.1).narrow hFc)
  refine va_calli (va_runV (As := [.int 10]) (rest := [.int 0, .ref qo]) ⟨hx, hb, hml, hown, hts⟩ (c_X7_many_10 l hnt dC dI a0 h0 qm qt qw qc qb qg s.heap.size ) (cwV 1 hts (goodIn_of _ (by decide +kernel)) rfl rfl rfl (by decide +kernel) ⟨Nat.le_of_ble_eq_true rfl, Nat.le_of_ble_eq_true rfl⟩) ⟨fun a U g mk q => by obtain ⟨q0, q1, qP, qK, qD, qZ⟩ := q; exact ⟨q0, q1, qP, va_K.moved (u := U) (U := U.calling g mk a) (Vm.Alike.refl U.vm) qK, qD, qZ.call⟩, va_recv hKc hPc (ci := 9) (q0 := 0) rfl rfl, fun U hU hW => ⟨rfl, by rw [hU], by rw [hU]; exact hPc, va_K.moved hW.alike hKc, hDc.weaken (fun _ _ _ _ => trivial), by rw [hU]; exact hZc.warm hW⟩⟩ rfl rfl hl.1 rfl (lv_room (Nat.le_of_ble_eq_true rfl)) dL_many_4 ⟨Nat.le_of_ble_eq_true rfl, Nat.le_of_ble_eq_true rfl⟩) hS (fun q _ h => hFc q h) hFc (fun r_1 u t H1 locs ht hvm hw hB hz1 hk1 hS => ?_)
  obtain ⟨hP1, hK1, hD1⟩ := hB
  rw [ht] at hP1
  have hK1 := va_K.moved hvm.symm hK1
  obtain ⟨hP, hD⟩ := va_join (wr := [(qo, .inl (cL, 1, .inr (.inl (fun _ => 0))))]) (w1 := [(h0, .inr (9, [.ref qm, .ref qt, .ref qw, .ref qc, .ref qb, .ref qg, .int 0, .int 0, .int 0, .int 0, .int 0]))]) hP hD [0] [1] rfl rfl (by decide) (by decide) hk1 hFc hP1 hD1
  have hK := (hK.sub (tys' := [(cL, .long)]) [0] rfl).app hK1
  generalize H1 = H at hP hS ⊢
  have hP : va_P (dC, dI) vwCl [(qo, .inl (cL, 1, .inr (.inl (fun _ => 0)))), (h0, .inr (9, [.ref qm, .ref qt, .ref qw, .ref qc, .ref qb, .ref qg, .int 0, .int 0, .int 0, .int 0, .int 0]))] H := hP
  have hD : va_D A [(qo, .inl (cL, 1, .inr (.inl (fun _ => 0)))), (h0, .inr (9, [.ref qm, .ref qt, .ref qw, .ref qc, .ref qb, .ref qg, .int 0, .int 0, .int 0, .int 0, .int 0]))] := hD
  have hK : va_K (dC, dI) vwCl [(cL, .long)] s := hK
  refine W.widen (k := 0) (n := 0) (Nat.le_of_ble_eq_true rfl) (Nat.le_of_ble_eq_true rfl) ?_
  obtain rfl : r_1 = 0 := hw
  refine lv_i2l (v := 0) hx hb dL_many_7 (by decide) ?_
  refine va_last hx hb hK hP hD hS 0 0 rfl rfl (by unfold vp_in; decide) dL_many_8 (fun H locs hP hD hS => ?_)
  have hP : va_P (dC, dI) vwCl [(qo, .inl (cL, 1, .inr (.inl (vp_updL (fun _ => 0) ((0 : Int32).toNatClampNeg) 0)))), (h0, .inr (9, [.ref qm, .ref qt, .ref qw, .ref qc, .ref qb, .ref qg, .int 0, .int 0, .int 0, .int 0, .int 0]))] H := hP
  have hD : va_D A [(qo, .inl (cL, 1, .inr (.inl (vp_updL (fun _ => 0) ((0 : Int32).toNatClampNeg) 0)))), (h0, .inr (9, [.ref qm, .ref qt, .ref qw, .ref qc, .ref qb, .ref qg, .int 0, .int 0, .int 0, .int 0, .int 0]))] := hD
  refine lv_goto (tgt := 15) hx hb dL_many_9 (by decide) ?_
  refine lv_iconst (v := 0) hx hb dL_many_15 (by decide) ?_
  have hP9 := hP.sub (ws' := [(qo, .inl (cL, 1, .inr (.inl (vp_updL (fun _ => 0) ((0 : Int32).toNatClampNeg) 0))))]) [0] rfl
  have hD9 := hD.sub (ws' := [(qo, .inl (cL, 1, .inr (.inl (vp_updL (fun _ => 0) ((0 : Int32).toNatClampNeg) 0))))]) [0] (by decide) rfl
  have hK9 := hK.sub (tys' := [(cL, .long)]) [0] rfl
  refine W.widen (k := 0) (n := 0) (Nat.le_of_ble_eq_true rfl) (Nat.le_of_ble_eq_true rfl) ?_
  exact W.iret (v := 0) hx hb hr (fun t ht hW => ⟨⟨0, (), rfl, rfl, ⟨by rw [ht]; exact hP9, va_K.moved hW.alike hK9, hD9⟩⟩, hS.F ht⟩) hS.2.2 dL_many_16
