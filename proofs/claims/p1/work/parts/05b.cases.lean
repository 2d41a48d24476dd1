set_option maxHeartbeats 4000000 in
set_option maxRecDepth 100000 in
/-- the law, case 0 -/
theorem law_0_2 {p : Program} {l : Launch} (hnt : l.stackTraces = false) {e : Env} {s : State} {m : MethodId} {below : List Frame} {meth : Method} {c : Code} {dC : Nat → ClassId} {dI : Nat → Nat → Nat} {a0 b : Nat} {xs : Nat → Int32} (C0 : lw_At p s m meth c b 7 xs) {A : Nat → Prop} (hA : ∀ q : Nat, s.heap.size ≤ q → A q) (hA2 : ∀ q : Nat, A q → s.heap.size ≤ q) (hZ : zB a0 A s s.heap) {x0 : Nat} {qm : Nat} {qt : Nat} {qw : Nat} {qc : Nat} {qb : Nat} {qg : Nat} {m0 : Nat} {l1 : Nat} {l2 : Nat} {qo : Nat} {qd : Nat} {cM : ClassId} {cT : ClassId} {cL : ClassId} {cD : ClassId} {H : Heap} {locs : List Loc} (hK : va_K (dC, dI) vwCl [(cM, .object "Haltingale$Machine"), (cT, .object "Haltingale$Tag"), (cL, .long), (cD, .double)] s) (hP : va_P (dC, dI) vwCl [(x0, .inr (9, [.ref qm, .ref qt, .ref qw, .ref qc, .ref qb, .ref qg, .int 0, .int 0, .int 0, .int 0, .int 0])), (qm, .inl (cM, 12, .inr (.inr (.inr (.inr (fun _ => none)))))), (qt, .inl (cT, 4, .inr (.inr (.inr (.inr (fun _ => none)))))), (m0, .inr (12, [.int 0, .ref l1, .ref l2, .int 0, .int 0, .int 0, .long 0])), (l1, .inr (1, [.int 0, .ref a0, .int 0])), (l2, .inr (1, [.int 0, .ref a0, .int 0])), (qo, .inl (cL, 1, .inr (.inl (fun _ => 0)))), (qd, .inl (cD, 1, .inr (.inr (.inr (.inl (fun _ => 0))))))] H) (hD : va_D A [(x0, .inr (9, [.ref qm, .ref qt, .ref qw, .ref qc, .ref qb, .ref qg, .int 0, .int 0, .int 0, .int 0, .int 0])), (qm, .inl (cM, 12, .inr (.inr (.inr (.inr (fun _ => none)))))), (qt, .inl (cT, 4, .inr (.inr (.inr (.inr (fun _ => none)))))), (m0, .inr (12, [.int 0, .ref l1, .ref l2, .int 0, .int 0, .int 0, .long 0])), (l1, .inr (1, [.int 0, .ref a0, .int 0])), (l2, .inr (1, [.int 0, .ref a0, .int 0])), (qo, .inl (cL, 1, .inr (.inl (fun _ => 0)))), (qd, .inl (cD, 1, .inr (.inr (.inr (.inl (fun _ => 0))))))]) (hS : va_S A s.heap H locs) {ls : Array Slot} (hl : lv_has ls 10 [(5, .int 0), (4, .ref qd), (3, .ref qo), (2, .ref m0), (1, .ref x0), (0, .ref b)]) (hp : xs ((1 : Int32).toNatClampNeg) = 2) : W p l e room_1 s m #[Value.ref b] below meth c H locs 31 4324 (lw_Z below #[Value.ref b] s) (F0 m 152 ls []) := by
  obtain ⟨hx, hb, hr, hml, hown, hts0, hX, hbl, hlocks, hgv⟩ := C0
  have hts : ∀ w ∈ zs_law, w.before #[Value.ref b] s = true := fun w h => hts0 w (zs_law_in w h)
  have hbA : ¬ A b := fun h => absurd (hA2 b h) (Nat.not_le.mpr hbl)
  refine lv_aload_n hx hb dL_law_152 rfl (lv_at hl 4 rfl) ?_
  refine lv_aload_n hx hb dL_law_153 rfl (lv_at hl 5 rfl) ?_
  refine lv_iload hx hb dL_law_154 (lv_at hl 0 rfl) ?_
  refine lv_iconst (v := 1) hx hb dL_law_156 (by decide) ?_
  refine lv_iadd hx hb dL_law_157 ?_
  refine lv_topi (fun x_1 ex_1 => ?_)
  obtain rfl : x_1 = 1 := ex_1.trans (by decide)
  refine va_sld hx hb hX hbl hbA hS (by unfold vp_in; decide) dL_law_158 ?_
  refine lv_topi (fun x_2 ex_2 => ?_)
  obtain rfl : x_2 = 2 := ex_2.trans (hp)
  refine lv_aload_n hx hb dL_law_159 rfl (lv_at hl 2 rfl) ?_
  have hPc := hP.sub (ws' := [(x0, .inr (9, [.ref qm, .ref qt, .ref qw, .ref qc, .ref qb, .ref qg, .int 0, .int 0, .int 0, .int 0, .int 0])), (qm, .inl (cM, 12, .inr (.inr (.inr (.inr (fun _ => none)))))), (qo, .inl (cL, 1, .inr (.inl (fun _ => 0))))]) [0, 1, 6] rfl
  have hDc := hD.sub (ws' := [(x0, .inr (9, [.ref qm, .ref qt, .ref qw, .ref qc, .ref qb, .ref qg, .int 0, .int 0, .int 0, .int 0, .int 0])), (qm, .inl (cM, 12, .inr (.inr (.inr (.inr (fun _ => none)))))), (qo, .inl (cL, 1, .inr (.inl (fun _ => 0))))]) [0, 1, 6] (by decide) rfl
  have hKc := hK.sub (tys' := [(cM, .object "Haltingale$Machine"), (cL, .long)]) [0, 2] rfl
  have hFc := va_free (wc := [(x0, .inr (9, [.ref qm, .ref qt, .ref qw, .ref qc, .ref qb, .ref qg, .int 0, .int 0, .int 0, .int 0, .int 0])), (qm, .inl (cM, 12, .inr (.inr (.inr (.inr (fun _ => none)))))), (qo, .inl (cL, 1, .inr (.inl (fun _ => 0))))]) hD hS hA [0, 1, 6] rfl
  have hZc := ((hZ.kept hS.2.1).narrow hFc)
  refine va_calli (vx_runSW (As := [.ref x0, .int 2, .ref qo]) (rest := []) ⟨hx, hb, hml, hown, hts⟩ (c_L_machine_ok l hnt dC dI a0 x0 qm qt qw qc qb qg qo cL cM 2 H.size (by first | assumption | decide)) (vx_cwSW 3 hts (goodIn_of _ (by decide +kernel)) rfl rfl rfl (by decide +kernel) ⟨Nat.le_of_ble_eq_true rfl, Nat.le_of_ble_eq_true rfl⟩) ⟨fun a U g mk q => by obtain ⟨q0, q1, qP, qK, qD, qZ⟩ := q; exact ⟨q0, q1, qP, va_K.moved (u := U) (U := U.calling g mk a) (Vm.Alike.refl U.vm) qK, qD, qZ.call⟩, fun U hU hW => ⟨rfl, by rw [hU], by rw [hU]; exact hPc, va_K.moved hW.alike hKc, hDc.weaken (fun _ _ _ _ => trivial), by rw [hU]; exact hZc.warm hW⟩⟩ rfl rfl hl.1 rfl (lv_room (Nat.le_of_ble_eq_true rfl)) dL_law_160 ⟨Nat.le_of_ble_eq_true rfl, Nat.le_of_ble_eq_true rfl⟩) hS (fun q _ h => hFc q h) hFc (fun r_3 u t H1 locs ht hvm hw hB hz1 hk1 hS => ?_)
  obtain ⟨hP1, hK1, hD1⟩ := hB
  rw [ht] at hP1
  have hK1 := va_K.moved hvm.symm hK1
  obtain ⟨hP, hD⟩ := va_join (wr := [(qt, .inl (cT, 4, .inr (.inr (.inr (.inr (fun _ => none)))))), (m0, .inr (12, [.int 0, .ref l1, .ref l2, .int 0, .int 0, .int 0, .long 0])), (l1, .inr (1, [.int 0, .ref a0, .int 0])), (l2, .inr (1, [.int 0, .ref a0, .int 0])), (qd, .inl (cD, 1, .inr (.inr (.inr (.inl (fun _ => 0))))))]) (w1 := [(qo, .inl (cL, 1, .inr (.inl (vp_updL (fun _ => 0) ((0 : Int32).toNatClampNeg) 0))))]) hP hD [0, 1, 6] [2, 3, 4, 5, 7] rfl rfl (by decide) (by decide) hk1 hFc hP1 hD1
  have hK := (hK.sub (tys' := [(cM, .object "Haltingale$Machine"), (cT, .object "Haltingale$Tag"), (cL, .long), (cD, .double)]) [0, 1, 2, 3] rfl).app hK1
  generalize H1 = H at hP hS ⊢
  have hP : va_P (dC, dI) vwCl [(qt, .inl (cT, 4, .inr (.inr (.inr (.inr (fun _ => none)))))), (m0, .inr (12, [.int 0, .ref l1, .ref l2, .int 0, .int 0, .int 0, .long 0])), (l1, .inr (1, [.int 0, .ref a0, .int 0])), (l2, .inr (1, [.int 0, .ref a0, .int 0])), (qd, .inl (cD, 1, .inr (.inr (.inr (.inl (fun _ => 0)))))), (qo, .inl (cL, 1, .inr (.inl (vp_updL (fun _ => 0) ((0 : Int32).toNatClampNeg) 0))))] H := hP
  have hD : va_D A [(qt, .inl (cT, 4, .inr (.inr (.inr (.inr (fun _ => none)))))), (m0, .inr (12, [.int 0, .ref l1, .ref l2, .int 0, .int 0, .int 0, .long 0])), (l1, .inr (1, [.int 0, .ref a0, .int 0])), (l2, .inr (1, [.int 0, .ref a0, .int 0])), (qd, .inl (cD, 1, .inr (.inr (.inr (.inl (fun _ => 0)))))), (qo, .inl (cL, 1, .inr (.inl (vp_updL (fun _ => 0) ((0 : Int32).toNatClampNeg) 0))))] := hD
  have hK : va_K (dC, dI) vwCl [(cM, .object "Haltingale$Machine"), (cT, .object "Haltingale$Tag"), (cL, .long), (cD, .double), (cL, .long)] s := hK
  refine W.widen (k := 35) (n := 4355) (Nat.le_of_ble_eq_true rfl) (Nat.le_of_ble_eq_true rfl) ?_
  obtain rfl : r_3 = 0 := hw
  refine lv_istore (lv' := [(6, .int 0), (5, .int 0), (4, .ref qd), (3, .ref qo), (2, .ref m0), (1, .ref x0), (0, .ref b)]) hx hb dL_law_163 hl (by decide) rfl (fun ls hl => ?_)
  refine lv_aload_n hx hb dL_law_165 rfl (lv_at hl 4 rfl) ?_
  refine lv_aload_n hx hb dL_law_166 rfl (lv_at hl 6 rfl) ?_
  refine lv_iload hx hb dL_law_167 (lv_at hl 1 rfl) ?_
  refine lv_iconst (v := 1) hx hb dL_law_169 (by decide) ?_
  refine lv_iadd hx hb dL_law_170 ?_
  refine lv_topi (fun x_4 ex_4 => ?_)
  obtain rfl : x_4 = 1 := ex_4.trans (by decide)
  refine va_sld hx hb hX hbl hbA hS (by unfold vp_in; decide) dL_law_171 ?_
  refine lv_topi (fun x_5 ex_5 => ?_)
  obtain rfl : x_5 = 2 := ex_5.trans (hp)
  have hPc := hP.sub (ws' := [(m0, .inr (12, [.int 0, .ref l1, .ref l2, .int 0, .int 0, .int 0, .long 0])), (l1, .inr (1, [.int 0, .ref a0, .int 0]))]) [1, 2] rfl
  have hDc := hD.sub (ws' := [(m0, .inr (12, [.int 0, .ref l1, .ref l2, .int 0, .int 0, .int 0, .long 0])), (l1, .inr (1, [.int 0, .ref a0, .int 0]))]) [1, 2] (by decide) rfl
  have hKc := hK.sub (tys' := []) [] rfl
  have hFc := va_free (wc := [(m0, .inr (12, [.int 0, .ref l1, .ref l2, .int 0, .int 0, .int 0, .long 0])), (l1, .inr (1, [.int 0, .ref a0, .int 0]))]) hD hS hA [1, 2] rfl
  have hZc := ((hZ.kept hS.2.1).narrow hFc)
  refine va_calli (va_runV (As := [.int 2]) (rest := []) ⟨hx, hb, hml, hown, hts⟩ (c_X10_machine_2 l hnt dC dI a0 m0 l1 l2 H.size ) (cwV 1 hts (goodIn_of _ (by decide +kernel)) rfl rfl rfl (by decide +kernel) ⟨Nat.le_of_ble_eq_true rfl, Nat.le_of_ble_eq_true rfl⟩) ⟨fun a U g mk q => by obtain ⟨q0, q1, qP, qK, qD, qZ⟩ := q; exact ⟨q0, q1, qP, va_K.moved (u := U) (U := U.calling g mk a) (Vm.Alike.refl U.vm) qK, qD, qZ.call⟩, va_recv hKc hPc (ci := 12) (q0 := 0) rfl rfl, fun U hU hW => ⟨rfl, by rw [hU], by rw [hU]; exact hPc, va_K.moved hW.alike hKc, hDc.weaken (fun _ _ _ _ => trivial), by rw [hU]; exact hZc.warm hW⟩⟩ rfl rfl hl.1 rfl (lv_room (Nat.le_of_ble_eq_true rfl)) dL_law_172 ⟨Nat.le_of_ble_eq_true rfl, Nat.le_of_ble_eq_true rfl⟩) hS (fun q _ h => hFc q h) hFc (fun r_6 u t H1 locs ht hvm hw hB hz1 hk1 hS => ?_)
  obtain ⟨hP1, hK1, hD1⟩ := hB
  rw [ht] at hP1
  have hK1 := va_K.moved hvm.symm hK1
  obtain ⟨hP, hD⟩ := va_join (wr := [(qt, .inl (cT, 4, .inr (.inr (.inr (.inr (fun _ => none)))))), (l2, .inr (1, [.int 0, .ref a0, .int 0])), (qd, .inl (cD, 1, .inr (.inr (.inr (.inl (fun _ => 0)))))), (qo, .inl (cL, 1, .inr (.inl (vp_updL (fun _ => 0) ((0 : Int32).toNatClampNeg) 0))))]) (w1 := [(m0, .inr (12, [.int 0, .ref l1, .ref l2, .int 0, .int 0, .int 0, .long 0]))]) hP hD [1, 2] [0, 3, 4, 5] rfl rfl (by decide) (by decide) hk1 hFc hP1 hD1
  have hK := (hK.sub (tys' := [(cM, .object "Haltingale$Machine"), (cT, .object "Haltingale$Tag"), (cL, .long), (cD, .double), (cL, .long)]) [0, 1, 2, 3, 4] rfl).app hK1
  generalize H1 = H at hP hS ⊢
  have hP : va_P (dC, dI) vwCl [(qt, .inl (cT, 4, .inr (.inr (.inr (.inr (fun _ => none)))))), (l2, .inr (1, [.int 0, .ref a0, .int 0])), (qd, .inl (cD, 1, .inr (.inr (.inr (.inl (fun _ => 0)))))), (qo, .inl (cL, 1, .inr (.inl (vp_updL (fun _ => 0) ((0 : Int32).toNatClampNeg) 0)))), (m0, .inr (12, [.int 0, .ref l1, .ref l2, .int 0, .int 0, .int 0, .long 0]))] H := hP
  have hD : va_D A [(qt, .inl (cT, 4, .inr (.inr (.inr (.inr (fun _ => none)))))), (l2, .inr (1, [.int 0, .ref a0, .int 0])), (qd, .inl (cD, 1, .inr (.inr (.inr (.inl (fun _ => 0)))))), (qo, .inl (cL, 1, .inr (.inl (vp_updL (fun _ => 0) ((0 : Int32).toNatClampNeg) 0)))), (m0, .inr (12, [.int 0, .ref l1, .ref l2, .int 0, .int 0, .int 0, .long 0]))] := hD
  have hK : va_K (dC, dI) vwCl [(cM, .object "Haltingale$Machine"), (cT, .object "Haltingale$Tag"), (cL, .long), (cD, .double), (cL, .long)] s := hK
  refine W.widen (k := 38) (n := 4374) (Nat.le_of_ble_eq_true rfl) (Nat.le_of_ble_eq_true rfl) ?_
  obtain rfl : r_6 = 0 := hw
  refine lv_istore (lv' := [(7, .int 0), (6, .int 0), (5, .int 0), (4, .ref qd), (3, .ref qo), (2, .ref m0), (1, .ref x0), (0, .ref b)]) hx hb dL_law_175 hl (by decide) rfl (fun ls hl => ?_)
  refine lv_aload_n hx hb dL_law_177 rfl (lv_at hl 5 rfl) ?_
  have hPc := hP.sub (ws' := [(m0, .inr (12, [.int 0, .ref l1, .ref l2, .int 0, .int 0, .int 0, .long 0]))]) [4] rfl
  have hDc := hD.sub (ws' := [(m0, .inr (12, [.int 0, .ref l1, .ref l2, .int 0, .int 0, .int 0, .long 0]))]) [4] (by decide) rfl
  have hKc := hK.sub (tys' := []) [] rfl
  have hFc := va_free (wc := [(m0, .inr (12, [.int 0, .ref l1, .ref l2, .int 0, .int 0, .int 0, .long 0]))]) hD hS hA [4] rfl
  have hZc := ((hZ.kept hS.2.1).narrow hFc)
  refine va_calli (va_runV (As := []) (rest := []) ⟨hx, hb, hml, hown, hts⟩ (c_X10_thrown l hnt dC dI a0 m0 l1 l2 0 H.size ) (cwV 0 hts (goodIn_of _ (by decide +kernel)) rfl rfl rfl (by decide +kernel) ⟨Nat.le_of_ble_eq_true rfl, Nat.le_of_ble_eq_true rfl⟩) ⟨fun a U g mk q => by obtain ⟨q0, q1, qP, qK, qD, qZ⟩ := q; exact ⟨q0, q1, qP, va_K.moved (u := U) (U := U.calling g mk a) (Vm.Alike.refl U.vm) qK, qD, qZ.call⟩, va_recv hKc hPc (ci := 12) (q0 := 0) rfl rfl, fun U hU hW => ⟨rfl, by rw [hU], by rw [hU]; exact hPc, va_K.moved hW.alike hKc, hDc.weaken (fun _ _ _ _ => trivial), by rw [hU]; exact hZc.warm hW⟩⟩ rfl rfl hl.1 rfl (lv_room (Nat.le_of_ble_eq_true rfl)) dL_law_178 ⟨Nat.le_of_ble_eq_true rfl, Nat.le_of_ble_eq_true rfl⟩) hS (fun q _ h => hFc q h) hFc (fun r_7 u t H1 locs ht hvm hw hB hz1 hk1 hS => ?_)
  obtain ⟨hP1, hK1, hD1⟩ := hB
  rw [ht] at hP1
  have hK1 := va_K.moved hvm.symm hK1
  obtain ⟨hP, hD⟩ := va_join (wr := [(qt, .inl (cT, 4, .inr (.inr (.inr (.inr (fun _ => none)))))), (l2, .inr (1, [.int 0, .ref a0, .int 0])), (qd, .inl (cD, 1, .inr (.inr (.inr (.inl (fun _ => 0)))))), (qo, .inl (cL, 1, .inr (.inl (vp_updL (fun _ => 0) ((0 : Int32).toNatClampNeg) 0))))]) (w1 := []) hP hD [4] [0, 1, 2, 3] rfl rfl (by decide) (by decide) hk1 hFc hP1 hD1
  have hK := (hK.sub (tys' := [(cM, .object "Haltingale$Machine"), (cT, .object "Haltingale$Tag"), (cL, .long), (cD, .double), (cL, .long)]) [0, 1, 2, 3, 4] rfl).app hK1
  generalize H1 = H at hP hS ⊢
  have hP : va_P (dC, dI) vwCl [(qt, .inl (cT, 4, .inr (.inr (.inr (.inr (fun _ => none)))))), (l2, .inr (1, [.int 0, .ref a0, .int 0])), (qd, .inl (cD, 1, .inr (.inr (.inr (.inl (fun _ => 0)))))), (qo, .inl (cL, 1, .inr (.inl (vp_updL (fun _ => 0) ((0 : Int32).toNatClampNeg) 0))))] H := hP
  have hD : va_D A [(qt, .inl (cT, 4, .inr (.inr (.inr (.inr (fun _ => none)))))), (l2, .inr (1, [.int 0, .ref a0, .int 0])), (qd, .inl (cD, 1, .inr (.inr (.inr (.inl (fun _ => 0)))))), (qo, .inl (cL, 1, .inr (.inl (vp_updL (fun _ => 0) ((0 : Int32).toNatClampNeg) 0))))] := hD
  have hK : va_K (dC, dI) vwCl [(cM, .object "Haltingale$Machine"), (cT, .object "Haltingale$Tag"), (cL, .long), (cD, .double), (cL, .long)] s := hK
  refine W.widen (k := 38) (n := 4374) (Nat.le_of_ble_eq_true rfl) (Nat.le_of_ble_eq_true rfl) ?_
  obtain rfl : r_7 = 0 := hw
  refine lv_iload hx hb dL_law_181 (lv_at hl 1 rfl) ?_
  refine lv_icmp_eq (tgt := 188) hx hb dL_law_183 (by decide) (fun c_8 => ?_) (fun c_8 => ?_)
  rotate_left
  · (first | exact absurd c_8 (by decide) | exact absurd (by decide) c_8)
  refine lv_iload hx hb dL_law_188 (lv_at hl 1 rfl) ?_
  refine lv_if_ne (tgt := 205) hx hb dL_law_190 (by decide) (fun c_9 => ?_) (fun c_9 => ?_)
  · (first | exact absurd c_9 (by decide) | exact absurd (by decide) c_9)
  refine lv_aload_n hx hb dL_law_193 rfl (lv_at hl 4 rfl) ?_
  refine lv_iconst (v := 0) hx hb dL_law_194 (by decide) ?_
  refine va_lald hx hb hK hP 3 2 rfl rfl (by unfold vp_in; decide) dL_law_195 ?_
  refine lv_topl (fun y_10 ey_10 => ?_)
  obtain rfl : y_10 = 0 := ey_10.trans (by decide +kernel)
  refine lv_iload hx hb dL_law_196 (lv_at hl 0 rfl) ?_
  refine lv_i2l (v := 0) hx hb dL_law_198 (by decide) ?_
  refine W.lcmp hx hb dL_law_199 ?_
  refine lv_topi (fun x_11 ex_11 => ?_)
  obtain rfl : x_11 = 0 := ex_11.trans (by decide +kernel)
  refine lv_if_eq (tgt := 205) hx hb dL_law_200 (by decide) (fun c_12 => ?_) (fun c_12 => ?_)
  rotate_left
  · (first | exact absurd c_12 (by decide) | exact absurd (by decide) c_12)
  refine lv_goto (tgt := 1806) hx hb dL_law_205 (by decide) ?_
  refine lv_iinc (v := 7) (lv' := [(5, .int 7), (7, .int 0), (6, .int 0), (4, .ref qd), (3, .ref qo), (2, .ref m0), (1, .ref x0), (0, .ref b)]) hx hb dL_law_1806 hl (k := 2) rfl (by decide) (by decide) rfl (fun ls hl => ?_)
  refine lv_goto (tgt := 28) hx hb dL_law_1809 (by decide) ?_
  refine lv_iload hx hb dL_law_28 (lv_at hl 0 rfl) ?_
  refine lv_aload_n hx hb dL_law_30 rfl (lv_at hl 7 rfl) ?_
  refine va_slen hx hb hX hbl hbA hS dL_law_31 ?_
  refine lv_topi (fun x_13 ex_13 => ?_)
  obtain rfl : x_13 = 7 := ex_13.trans (by decide)
  refine lv_bipush (v := 7) hx hb dL_law_32 (by decide) ?_
  refine lv_isub hx hb dL_law_34 ?_
  refine lv_topi (fun x_14 ex_14 => ?_)
  obtain rfl : x_14 = 0 := ex_14.trans (by decide)
  refine lv_icmp_gt (tgt := 1812) hx hb dL_law_35 (by decide) (fun c_15 => ?_) (fun c_15 => ?_)
  rotate_left
  · (first | exact absurd c_15 (by decide) | exact absurd (by decide) c_15)
  refine lv_iconst (v := 1) hx hb dL_law_1812 (by decide) ?_
  refine va_forget (fun q hq => hA2 _ (hS.2.2 q hq)) ?_
  refine W.widen (k := room_1.cells) (n := room_1.slots) (Nat.le_of_ble_eq_true rfl) (Nat.le_of_ble_eq_true rfl) ?_
  exact lw_ret0 hx hb hr hlocks dL_law_1813

set_option maxHeartbeats 4000000 in
set_option maxRecDepth 100000 in
/-- the law, case 0 -/
theorem law_0_3 {p : Program} {l : Launch} (hnt : l.stackTraces = false) {e : Env} {s : State} {m : MethodId} {below : List Frame} {meth : Method} {c : Code} {dC : Nat → ClassId} {dI : Nat → Nat → Nat} {a0 b : Nat} {xs : Nat → Int32} (C0 : lw_At p s m meth c b 7 xs) {A : Nat → Prop} (hA : ∀ q : Nat, s.heap.size ≤ q → A q) (hA2 : ∀ q : Nat, A q → s.heap.size ≤ q) (hZ : zB a0 A s s.heap) {x0 : Nat} {qm : Nat} {qt : Nat} {qw : Nat} {qc : Nat} {qb : Nat} {qg : Nat} {m0 : Nat} {l1 : Nat} {l2 : Nat} {qo : Nat} {qd : Nat} {cM : ClassId} {cT : ClassId} {cL : ClassId} {cD : ClassId} {H : Heap} {locs : List Loc} (hK : va_K (dC, dI) vwCl [(cM, .object "Haltingale$Machine"), (cT, .object "Haltingale$Tag"), (cL, .long), (cD, .double)] s) (hP : va_P (dC, dI) vwCl [(x0, .inr (9, [.ref qm, .ref qt, .ref qw, .ref qc, .ref qb, .ref qg, .int 0, .int 0, .int 0, .int 0, .int 0])), (qm, .inl (cM, 12, .inr (.inr (.inr (.inr (fun _ => none)))))), (qt, .inl (cT, 4, .inr (.inr (.inr (.inr (fun _ => none)))))), (m0, .inr (12, [.int 0, .ref l1, .ref l2, .int 0, .int 0, .int 0, .long 0])), (l1, .inr (1, [.int 0, .ref a0, .int 0])), (l2, .inr (1, [.int 0, .ref a0, .int 0])), (qo, .inl (cL, 1, .inr (.inl (fun _ => 0)))), (qd, .inl (cD, 1, .inr (.inr (.inr (.inl (fun _ => 0))))))] H) (hD : va_D A [(x0, .inr (9, [.ref qm, .ref qt, .ref qw, .ref qc, .ref qb, .ref qg, .int 0, .int 0, .int 0, .int 0, .int 0])), (qm, .inl (cM, 12, .inr (.inr (.inr (.inr (fun _ => none)))))), (qt, .inl (cT, 4, .inr (.inr (.inr (.inr (fun _ => none)))))), (m0, .inr (12, [.int 0, .ref l1, .ref l2, .int 0, .int 0, .int 0, .long 0])), (l1, .inr (1, [.int 0, .ref a0, .int 0])), (l2, .inr (1, [.int 0, .ref a0, .int 0])), (qo, .inl (cL, 1, .inr (.inl (fun _ => 0)))), (qd, .inl (cD, 1, .inr (.inr (.inr (.inl (fun _ => 0))))))]) (hS : va_S A s.heap H locs) {ls : Array Slot} (hl : lv_has ls 10 [(5, .int 0), (4, .ref qd), (3, .ref qo), (2, .ref m0), (1, .ref x0), (0, .ref b)]) (hp : xs ((1 : Int32).toNatClampNeg) = 3) : W p l e room_1 s m #[Value.ref b] below meth c H locs 31 4324 (lw_Z below #[Value.ref b] s) (F0 m 152 ls []) := by
  obtain ⟨hx, hb, hr, hml, hown, hts0, hX, hbl, hlocks, hgv⟩ := C0
  have hts : ∀ w ∈ zs_law, w.before #[Value.ref b] s = true := fun w h => hts0 w (zs_law_in w h)
  have hbA : ¬ A b := fun h => absurd (hA2 b h) (Nat.not_le.mpr hbl)
  refine lv_aload_n hx hb dL_law_152 rfl (lv_at hl 4 rfl) ?_
  refine lv_aload_n hx hb dL_law_153 rfl (lv_at hl 5 rfl) ?_
  refine lv_iload hx hb dL_law_154 (lv_at hl 0 rfl) ?_
  refine lv_iconst (v := 1) hx hb dL_law_156 (by decide) ?_
  refine lv_iadd hx hb dL_law_157 ?_
  refine lv_topi (fun x_1 ex_1 => ?_)
  obtain rfl : x_1 = 1 := ex_1.trans (by decide)
  refine va_sld hx hb hX hbl hbA hS (by unfold vp_in; decide) dL_law_158 ?_
  refine lv_topi (fun x_2 ex_2 => ?_)
  obtain rfl : x_2 = 3 := ex_2.trans (hp)
  refine lv_aload_n hx hb dL_law_159 rfl (lv_at hl 2 rfl) ?_
  have hPc := hP.sub (ws' := [(x0, .inr (9, [.ref qm, .ref qt, .ref qw, .ref qc, .ref qb, .ref qg, .int 0, .int 0, .int 0, .int 0, .int 0])), (qm, .inl (cM, 12, .inr (.inr (.inr (.inr (fun _ => none)))))), (qo, .inl (cL, 1, .inr (.inl (fun _ => 0))))]) [0, 1, 6] rfl
  have hDc := hD.sub (ws' := [(x0, .inr (9, [.ref qm, .ref qt, .ref qw, .ref qc, .ref qb, .ref qg, .int 0, .int 0, .int 0, .int 0, .int 0])), (qm, .inl (cM, 12, .inr (.inr (.inr (.inr (fun _ => none)))))), (qo, .inl (cL, 1, .inr (.inl (fun _ => 0))))]) [0, 1, 6] (by decide) rfl
  have hKc := hK.sub (tys' := [(cM, .object "Haltingale$Machine"), (cL, .long)]) [0, 2] rfl
  have hFc := va_free (wc := [(x0, .inr (9, [.ref qm, .ref qt, .ref qw, .ref qc, .ref qb, .ref qg, .int 0, .int 0, .int 0, .int 0, .int 0])), (qm, .inl (cM, 12, .inr (.inr (.inr (.inr (fun _ => none)))))), (qo, .inl (cL, 1, .inr (.inl (fun _ => 0))))]) hD hS hA [0, 1, 6] rfl
  have hZc := ((hZ.kept hS.2.1).narrow hFc)
  refine va_calli (vx_runSW (As := [.ref x0, .int 3, .ref qo]) (rest := []) ⟨hx, hb, hml, hown, hts⟩ (c_L_machine_ok l hnt dC dI a0 x0 qm qt qw qc qb qg qo cL cM 3 H.size (by first | assumption | decide)) (vx_cwSW 3 hts (goodIn_of _ (by decide +kernel)) rfl rfl rfl (by decide +kernel) ⟨Nat.le_of_ble_eq_true rfl, Nat.le_of_ble_eq_true rfl⟩) ⟨fun a U g mk q => by obtain ⟨q0, q1, qP, qK, qD, qZ⟩ := q; exact ⟨q0, q1, qP, va_K.moved (u := U) (U := U.calling g mk a) (Vm.Alike.refl U.vm) qK, qD, qZ.call⟩, fun U hU hW => ⟨rfl, by rw [hU], by rw [hU]; exact hPc, va_K.moved hW.alike hKc, hDc.weaken (fun _ _ _ _ => trivial), by rw [hU]; exact hZc.warm hW⟩⟩ rfl rfl hl.1 rfl (lv_room (Nat.le_of_ble_eq_true rfl)) dL_law_160 ⟨Nat.le_of_ble_eq_true rfl, Nat.le_of_ble_eq_true rfl⟩) hS (fun q _ h => hFc q h) hFc (fun r_3 u t H1 locs ht hvm hw hB hz1 hk1 hS => ?_)
  obtain ⟨hP1, hK1, hD1⟩ := hB
  rw [ht] at hP1
  have hK1 := va_K.moved hvm.symm hK1
  obtain ⟨hP, hD⟩ := va_join (wr := [(qt, .inl (cT, 4, .inr (.inr (.inr (.inr (fun _ => none)))))), (m0, .inr (12, [.int 0, .ref l1, .ref l2, .int 0, .int 0, .int 0, .long 0])), (l1, .inr (1, [.int 0, .ref a0, .int 0])), (l2, .inr (1, [.int 0, .ref a0, .int 0])), (qd, .inl (cD, 1, .inr (.inr (.inr (.inl (fun _ => 0))))))]) (w1 := [(qo, .inl (cL, 1, .inr (.inl (vp_updL (fun _ => 0) ((0 : Int32).toNatClampNeg) 0))))]) hP hD [0, 1, 6] [2, 3, 4, 5, 7] rfl rfl (by decide) (by decide) hk1 hFc hP1 hD1
  have hK := (hK.sub (tys' := [(cM, .object "Haltingale$Machine"), (cT, .object "Haltingale$Tag"), (cL, .long), (cD, .double)]) [0, 1, 2, 3] rfl).app hK1
  generalize H1 = H at hP hS ⊢
  have hP : va_P (dC, dI) vwCl [(qt, .inl (cT, 4, .inr (.inr (.inr (.inr (fun _ => none)))))), (m0, .inr (12, [.int 0, .ref l1, .ref l2, .int 0, .int 0, .int 0, .long 0])), (l1, .inr (1, [.int 0, .ref a0, .int 0])), (l2, .inr (1, [.int 0, .ref a0, .int 0])), (qd, .inl (cD, 1, .inr (.inr (.inr (.inl (fun _ => 0)))))), (qo, .inl (cL, 1, .inr (.inl (vp_updL (fun _ => 0) ((0 : Int32).toNatClampNeg) 0))))] H := hP
  have hD : va_D A [(qt, .inl (cT, 4, .inr (.inr (.inr (.inr (fun _ => none)))))), (m0, .inr (12, [.int 0, .ref l1, .ref l2, .int 0, .int 0, .int 0, .long 0])), (l1, .inr (1, [.int 0, .ref a0, .int 0])), (l2, .inr (1, [.int 0, .ref a0, .int 0])), (qd, .inl (cD, 1, .inr (.inr (.inr (.inl (fun _ => 0)))))), (qo, .inl (cL, 1, .inr (.inl (vp_updL (fun _ => 0) ((0 : Int32).toNatClampNeg) 0))))] := hD
  have hK : va_K (dC, dI) vwCl [(cM, .object "Haltingale$Machine"), (cT, .object "Haltingale$Tag"), (cL, .long), (cD, .double), (cL, .long)] s := hK
  refine W.widen (k := 35) (n := 4355) (Nat.le_of_ble_eq_true rfl) (Nat.le_of_ble_eq_true rfl) ?_
  obtain rfl : r_3 = 0 := hw
  refine lv_istore (lv' := [(6, .int 0), (5, .int 0), (4, .ref qd), (3, .ref qo), (2, .ref m0), (1, .ref x0), (0, .ref b)]) hx hb dL_law_163 hl (by decide) rfl (fun ls hl => ?_)
  refine lv_aload_n hx hb dL_law_165 rfl (lv_at hl 4 rfl) ?_
  refine lv_aload_n hx hb dL_law_166 rfl (lv_at hl 6 rfl) ?_
  refine lv_iload hx hb dL_law_167 (lv_at hl 1 rfl) ?_
  refine lv_iconst (v := 1) hx hb dL_law_169 (by decide) ?_
  refine lv_iadd hx hb dL_law_170 ?_
  refine lv_topi (fun x_4 ex_4 => ?_)
  obtain rfl : x_4 = 1 := ex_4.trans (by decide)
  refine va_sld hx hb hX hbl hbA hS (by unfold vp_in; decide) dL_law_171 ?_
  refine lv_topi (fun x_5 ex_5 => ?_)
  obtain rfl : x_5 = 3 := ex_5.trans (hp)
  have hPc := hP.sub (ws' := [(m0, .inr (12, [.int 0, .ref l1, .ref l2, .int 0, .int 0, .int 0, .long 0])), (l1, .inr (1, [.int 0, .ref a0, .int 0]))]) [1, 2] rfl
  have hDc := hD.sub (ws' := [(m0, .inr (12, [.int 0, .ref l1, .ref l2, .int 0, .int 0, .int 0, .long 0])), (l1, .inr (1, [.int 0, .ref a0, .int 0]))]) [1, 2] (by decide) rfl
  have hKc := hK.sub (tys' := []) [] rfl
  have hFc := va_free (wc := [(m0, .inr (12, [.int 0, .ref l1, .ref l2, .int 0, .int 0, .int 0, .long 0])), (l1, .inr (1, [.int 0, .ref a0, .int 0]))]) hD hS hA [1, 2] rfl
  have hZc := ((hZ.kept hS.2.1).narrow hFc)
  refine va_calli (va_runV (As := [.int 3]) (rest := []) ⟨hx, hb, hml, hown, hts⟩ (c_X10_machine_3 l hnt dC dI a0 m0 l1 l2 H.size ) (cwV 1 hts (goodIn_of _ (by decide +kernel)) rfl rfl rfl (by decide +kernel) ⟨Nat.le_of_ble_eq_true rfl, Nat.le_of_ble_eq_true rfl⟩) ⟨fun a U g mk q => by obtain ⟨q0, q1, qP, qK, qD, qZ⟩ := q; exact ⟨q0, q1, qP, va_K.moved (u := U) (U := U.calling g mk a) (Vm.Alike.refl U.vm) qK, qD, qZ.call⟩, va_recv hKc hPc (ci := 12) (q0 := 0) rfl rfl, fun U hU hW => ⟨rfl, by rw [hU], by rw [hU]; exact hPc, va_K.moved hW.alike hKc, hDc.weaken (fun _ _ _ _ => trivial), by rw [hU]; exact hZc.warm hW⟩⟩ rfl rfl hl.1 rfl (lv_room (Nat.le_of_ble_eq_true rfl)) dL_law_172 ⟨Nat.le_of_ble_eq_true rfl, Nat.le_of_ble_eq_true rfl⟩) hS (fun q _ h => hFc q h) hFc (fun r_6 u t H1 locs ht hvm hw hB hz1 hk1 hS => ?_)
  obtain ⟨hP1, hK1, hD1⟩ := hB
  rw [ht] at hP1
  have hK1 := va_K.moved hvm.symm hK1
  obtain ⟨hP, hD⟩ := va_join (wr := [(qt, .inl (cT, 4, .inr (.inr (.inr (.inr (fun _ => none)))))), (l2, .inr (1, [.int 0, .ref a0, .int 0])), (qd, .inl (cD, 1, .inr (.inr (.inr (.inl (fun _ => 0)))))), (qo, .inl (cL, 1, .inr (.inl (vp_updL (fun _ => 0) ((0 : Int32).toNatClampNeg) 0))))]) (w1 := [(m0, .inr (12, [.int 0, .ref l1, .ref l2, .int 0, .int 0, .int 0, .long 0]))]) hP hD [1, 2] [0, 3, 4, 5] rfl rfl (by decide) (by decide) hk1 hFc hP1 hD1
  have hK := (hK.sub (tys' := [(cM, .object "Haltingale$Machine"), (cT, .object "Haltingale$Tag"), (cL, .long), (cD, .double), (cL, .long)]) [0, 1, 2, 3, 4] rfl).app hK1
  generalize H1 = H at hP hS ⊢
  have hP : va_P (dC, dI) vwCl [(qt, .inl (cT, 4, .inr (.inr (.inr (.inr (fun _ => none)))))), (l2, .inr (1, [.int 0, .ref a0, .int 0])), (qd, .inl (cD, 1, .inr (.inr (.inr (.inl (fun _ => 0)))))), (qo, .inl (cL, 1, .inr (.inl (vp_updL (fun _ => 0) ((0 : Int32).toNatClampNeg) 0)))), (m0, .inr (12, [.int 0, .ref l1, .ref l2, .int 0, .int 0, .int 0, .long 0]))] H := hP
  have hD : va_D A [(qt, .inl (cT, 4, .inr (.inr (.inr (.inr (fun _ => none)))))), (l2, .inr (1, [.int 0, .ref a0, .int 0])), (qd, .inl (cD, 1, .inr (.inr (.inr (.inl (fun _ => 0)))))), (qo, .inl (cL, 1, .inr (.inl (vp_updL (fun _ => 0) ((0 : Int32).toNatClampNeg) 0)))), (m0, .inr (12, [.int 0, .ref l1, .ref l2, .int 0, .int 0, .int 0, .long 0]))] := hD
  have hK : va_K (dC, dI) vwCl [(cM, .object "Haltingale$Machine"), (cT, .object "Haltingale$Tag"), (cL, .long), (cD, .double), (cL, .long)] s := hK
  refine W.widen (k := 38) (n := 4376) (Nat.le_of_ble_eq_true rfl) (Nat.le_of_ble_eq_true rfl) ?_
  obtain rfl : r_6 = 0 := hw
  refine lv_istore (lv' := [(7, .int 0), (6, .int 0), (5, .int 0), (4, .ref qd), (3, .ref qo), (2, .ref m0), (1, .ref x0), (0, .ref b)]) hx hb dL_law_175 hl (by decide) rfl (fun ls hl => ?_)
  refine lv_aload_n hx hb dL_law_177 rfl (lv_at hl 5 rfl) ?_
  have hPc := hP.sub (ws' := [(m0, .inr (12, [.int 0, .ref l1, .ref l2, .int 0, .int 0, .int 0, .long 0]))]) [4] rfl
  have hDc := hD.sub (ws' := [(m0, .inr (12, [.int 0, .ref l1, .ref l2, .int 0, .int 0, .int 0, .long 0]))]) [4] (by decide) rfl
  have hKc := hK.sub (tys' := []) [] rfl
  have hFc := va_free (wc := [(m0, .inr (12, [.int 0, .ref l1, .ref l2, .int 0, .int 0, .int 0, .long 0]))]) hD hS hA [4] rfl
  have hZc := ((hZ.kept hS.2.1).narrow hFc)
  refine va_calli (va_runV (As := []) (rest := []) ⟨hx, hb, hml, hown, hts⟩ (c_X10_thrown l hnt dC dI a0 m0 l1 l2 0 H.size ) (cwV 0 hts (goodIn_of _ (by decide +kernel)) rfl rfl rfl (by decide +kernel) ⟨Nat.le_of_ble_eq_true rfl, Nat.le_of_ble_eq_true rfl⟩) ⟨fun a U g mk q => by obtain ⟨q0, q1, qP, qK, qD, qZ⟩ := q; exact ⟨q0, q1, qP, va_K.moved (u := U) (U := U.calling g mk a) (Vm.Alike.refl U.vm) qK, qD, qZ.call⟩, va_recv hKc hPc (ci := 12) (q0 := 0) rfl rfl, fun U hU hW => ⟨rfl, by rw [hU], by rw [hU]; exact hPc, va_K.moved hW.alike hKc, hDc.weaken (fun _ _ _ _ => trivial), by rw [hU]; exact hZc.warm hW⟩⟩ rfl rfl hl.1 rfl (lv_room (Nat.le_of_ble_eq_true rfl)) dL_law_178 ⟨Nat.le_of_ble_eq_true rfl, Nat.le_of_ble_eq_true rfl⟩) hS (fun q _ h => hFc q h) hFc (fun r_7 u t H1 locs ht hvm hw hB hz1 hk1 hS => ?_)
  obtain ⟨hP1, hK1, hD1⟩ := hB
  rw [ht] at hP1
  have hK1 := va_K.moved hvm.symm hK1
  obtain ⟨hP, hD⟩ := va_join (wr := [(qt, .inl (cT, 4, .inr (.inr (.inr (.inr (fun _ => none)))))), (l2, .inr (1, [.int 0, .ref a0, .int 0])), (qd, .inl (cD, 1, .inr (.inr (.inr (.inl (fun _ => 0)))))), (qo, .inl (cL, 1, .inr (.inl (vp_updL (fun _ => 0) ((0 : Int32).toNatClampNeg) 0))))]) (w1 := []) hP hD [4] [0, 1, 2, 3] rfl rfl (by decide) (by decide) hk1 hFc hP1 hD1
  have hK := (hK.sub (tys' := [(cM, .object "Haltingale$Machine"), (cT, .object "Haltingale$Tag"), (cL, .long), (cD, .double), (cL, .long)]) [0, 1, 2, 3, 4] rfl).app hK1
  generalize H1 = H at hP hS ⊢
  have hP : va_P (dC, dI) vwCl [(qt, .inl (cT, 4, .inr (.inr (.inr (.inr (fun _ => none)))))), (l2, .inr (1, [.int 0, .ref a0, .int 0])), (qd, .inl (cD, 1, .inr (.inr (.inr (.inl (fun _ => 0)))))), (qo, .inl (cL, 1, .inr (.inl (vp_updL (fun _ => 0) ((0 : Int32).toNatClampNeg) 0))))] H := hP
  have hD : va_D A [(qt, .inl (cT, 4, .inr (.inr (.inr (.inr (fun _ => none)))))), (l2, .inr (1, [.int 0, .ref a0, .int 0])), (qd, .inl (cD, 1, .inr (.inr (.inr (.inl (fun _ => 0)))))), (qo, .inl (cL, 1, .inr (.inl (vp_updL (fun _ => 0) ((0 : Int32).toNatClampNeg) 0))))] := hD
  have hK : va_K (dC, dI) vwCl [(cM, .object "Haltingale$Machine"), (cT, .object "Haltingale$Tag"), (cL, .long), (cD, .double), (cL, .long)] s := hK
  refine W.widen (k := 38) (n := 4376) (Nat.le_of_ble_eq_true rfl) (Nat.le_of_ble_eq_true rfl) ?_
  obtain rfl : r_7 = 0 := hw
  refine lv_iload hx hb dL_law_181 (lv_at hl 1 rfl) ?_
  refine lv_icmp_eq (tgt := 188) hx hb dL_law_183 (by decide) (fun c_8 => ?_) (fun c_8 => ?_)
  rotate_left
  · (first | exact absurd c_8 (by decide) | exact absurd (by decide) c_8)
  refine lv_iload hx hb dL_law_188 (lv_at hl 1 rfl) ?_
  refine lv_if_ne (tgt := 205) hx hb dL_law_190 (by decide) (fun c_9 => ?_) (fun c_9 => ?_)
  · (first | exact absurd c_9 (by decide) | exact absurd (by decide) c_9)
  refine lv_aload_n hx hb dL_law_193 rfl (lv_at hl 4 rfl) ?_
  refine lv_iconst (v := 0) hx hb dL_law_194 (by decide) ?_
  refine va_lald hx hb hK hP 3 2 rfl rfl (by unfold vp_in; decide) dL_law_195 ?_
  refine lv_topl (fun y_10 ey_10 => ?_)
  obtain rfl : y_10 = 0 := ey_10.trans (by decide +kernel)
  refine lv_iload hx hb dL_law_196 (lv_at hl 0 rfl) ?_
  refine lv_i2l (v := 0) hx hb dL_law_198 (by decide) ?_
  refine W.lcmp hx hb dL_law_199 ?_
  refine lv_topi (fun x_11 ex_11 => ?_)
  obtain rfl : x_11 = 0 := ex_11.trans (by decide +kernel)
  refine lv_if_eq (tgt := 205) hx hb dL_law_200 (by decide) (fun c_12 => ?_) (fun c_12 => ?_)
  rotate_left
  · (first | exact absurd c_12 (by decide) | exact absurd (by decide) c_12)
  refine lv_goto (tgt := 1806) hx hb dL_law_205 (by decide) ?_
  refine lv_iinc (v := 7) (lv' := [(5, .int 7), (7, .int 0), (6, .int 0), (4, .ref qd), (3, .ref qo), (2, .ref m0), (1, .ref x0), (0, .ref b)]) hx hb dL_law_1806 hl (k := 2) rfl (by decide) (by decide) rfl (fun ls hl => ?_)
  refine lv_goto (tgt := 28) hx hb dL_law_1809 (by decide) ?_
  refine lv_iload hx hb dL_law_28 (lv_at hl 0 rfl) ?_
  refine lv_aload_n hx hb dL_law_30 rfl (lv_at hl 7 rfl) ?_
  refine va_slen hx hb hX hbl hbA hS dL_law_31 ?_
  refine lv_topi (fun x_13 ex_13 => ?_)
  obtain rfl : x_13 = 7 := ex_13.trans (by decide)
  refine lv_bipush (v := 7) hx hb dL_law_32 (by decide) ?_
  refine lv_isub hx hb dL_law_34 ?_
  refine lv_topi (fun x_14 ex_14 => ?_)
  obtain rfl : x_14 = 0 := ex_14.trans (by decide)
  refine lv_icmp_gt (tgt := 1812) hx hb dL_law_35 (by decide) (fun c_15 => ?_) (fun c_15 => ?_)
  rotate_left
  · (first | exact absurd c_15 (by decide) | exact absurd (by decide) c_15)
  refine lv_iconst (v := 1) hx hb dL_law_1812 (by decide) ?_
  refine va_forget (fun q hq => hA2 _ (hS.2.2 q hq)) ?_
  refine W.widen (k := room_1.cells) (n := room_1.slots) (Nat.le_of_ble_eq_true rfl) (Nat.le_of_ble_eq_true rfl) ?_
  exact lw_ret0 hx hb hr hlocks dL_law_1813

set_option maxHeartbeats 4000000 in
set_option maxRecDepth 100000 in
/-- the law, case 0 -/
theorem law_0_4 {p : Program} {l : Launch} (hnt : l.stackTraces = false) {e : Env} {s : State} {m : MethodId} {below : List Frame} {meth : Method} {c : Code} {dC : Nat → ClassId} {dI : Nat → Nat → Nat} {a0 b : Nat} {xs : Nat → Int32} (C0 : lw_At p s m meth c b 7 xs) {A : Nat → Prop} (hA : ∀ q : Nat, s.heap.size ≤ q → A q) (hA2 : ∀ q : Nat, A q → s.heap.size ≤ q) (hZ : zB a0 A s s.heap) {x0 : Nat} {qm : Nat} {qt : Nat} {qw : Nat} {qc : Nat} {qb : Nat} {qg : Nat} {m0 : Nat} {l1 : Nat} {l2 : Nat} {qo : Nat} {qd : Nat} {cM : ClassId} {cT : ClassId} {cL : ClassId} {cD : ClassId} {H : Heap} {locs : List Loc} (hK : va_K (dC, dI) vwCl [(cM, .object "Haltingale$Machine"), (cT, .object "Haltingale$Tag"), (cL, .long), (cD, .double)] s) (hP : va_P (dC, dI) vwCl [(x0, .inr (9, [.ref qm, .ref qt, .ref qw, .ref qc, .ref qb, .ref qg, .int 0, .int 0, .int 0, .int 0, .int 0])), (qm, .inl (cM, 12, .inr (.inr (.inr (.inr (fun _ => none)))))), (qt, .inl (cT, 4, .inr (.inr (.inr (.inr (fun _ => none)))))), (m0, .inr (12, [.int 0, .ref l1, .ref l2, .int 0, .int 0, .int 0, .long 0])), (l1, .inr (1, [.int 0, .ref a0, .int 0])), (l2, .inr (1, [.int 0, .ref a0, .int 0])), (qo, .inl (cL, 1, .inr (.inl (fun _ => 0)))), (qd, .inl (cD, 1, .inr (.inr (.inr (.inl (fun _ => 0))))))] H) (hD : va_D A [(x0, .inr (9, [.ref qm, .ref qt, .ref qw, .ref qc, .ref qb, .ref qg, .int 0, .int 0, .int 0, .int 0, .int 0])), (qm, .inl (cM, 12, .inr (.inr (.inr (.inr (fun _ => none)))))), (qt, .inl (cT, 4, .inr (.inr (.inr (.inr (fun _ => none)))))), (m0, .inr (12, [.int 0, .ref l1, .ref l2, .int 0, .int 0, .int 0, .long 0])), (l1, .inr (1, [.int 0, .ref a0, .int 0])), (l2, .inr (1, [.int 0, .ref a0, .int 0])), (qo, .inl (cL, 1, .inr (.inl (fun _ => 0)))), (qd, .inl (cD, 1, .inr (.inr (.inr (.inl (fun _ => 0))))))]) (hS : va_S A s.heap H locs) {ls : Array Slot} (hl : lv_has ls 10 [(5, .int 0), (4, .ref qd), (3, .ref qo), (2, .ref m0), (1, .ref x0), (0, .ref b)]) (hp : xs ((1 : Int32).toNatClampNeg) = 4) : W p l e room_1 s m #[Value.ref b] below meth c H locs 31 4324 (lw_Z below #[Value.ref b] s) (F0 m 152 ls []) := by
  obtain ⟨hx, hb, hr, hml, hown, hts0, hX, hbl, hlocks, hgv⟩ := C0
  have hts : ∀ w ∈ zs_law, w.before #[Value.ref b] s = true := fun w h => hts0 w (zs_law_in w h)
  have hbA : ¬ A b := fun h => absurd (hA2 b h) (Nat.not_le.mpr hbl)
  refine lv_aload_n hx hb dL_law_152 rfl (lv_at hl 4 rfl) ?_
  refine lv_aload_n hx hb dL_law_153 rfl (lv_at hl 5 rfl) ?_
  refine lv_iload hx hb dL_law_154 (lv_at hl 0 rfl) ?_
  refine lv_iconst (v := 1) hx hb dL_law_156 (by decide) ?_
  refine lv_iadd hx hb dL_law_157 ?_
  refine lv_topi (fun x_1 ex_1 => ?_)
  obtain rfl : x_1 = 1 := ex_1.trans (by decide)
  refine va_sld hx hb hX hbl hbA hS (by unfold vp_in; decide) dL_law_158 ?_
  refine lv_topi (fun x_2 ex_2 => ?_)
  obtain rfl : x_2 = 4 := ex_2.trans (hp)
  refine lv_aload_n hx hb dL_law_159 rfl (lv_at hl 2 rfl) ?_
  have hPc := hP.sub (ws' := [(x0, .inr (9, [.ref qm, .ref qt, .ref qw, .ref qc, .ref qb, .ref qg, .int 0, .int 0, .int 0, .int 0, .int 0])), (qm, .inl (cM, 12, .inr (.inr (.inr (.inr (fun _ => none)))))), (qo, .inl (cL, 1, .inr (.inl (fun _ => 0))))]) [0, 1, 6] rfl
  have hDc := hD.sub (ws' := [(x0, .inr (9, [.ref qm, .ref qt, .ref qw, .ref qc, .ref qb, .ref qg, .int 0, .int 0, .int 0, .int 0, .int 0])), (qm, .inl (cM, 12, .inr (.inr (.inr (.inr (fun _ => none)))))), (qo, .inl (cL, 1, .inr (.inl (fun _ => 0))))]) [0, 1, 6] (by decide) rfl
  have hKc := hK.sub (tys' := [(cM, .object "Haltingale$Machine"), (cL, .long)]) [0, 2] rfl
  have hFc := va_free (wc := [(x0, .inr (9, [.ref qm, .ref qt, .ref qw, .ref qc, .ref qb, .ref qg, .int 0, .int 0, .int 0, .int 0, .int 0])), (qm, .inl (cM, 12, .inr (.inr (.inr (.inr (fun _ => none)))))), (qo, .inl (cL, 1, .inr (.inl (fun _ => 0))))]) hD hS hA [0, 1, 6] rfl
  have hZc := ((hZ.kept hS.2.1).narrow hFc)
  refine va_calli (vx_runSW (As := [.ref x0, .int 4, .ref qo]) (rest := []) ⟨hx, hb, hml, hown, hts⟩ (c_L_machine_ok l hnt dC dI a0 x0 qm qt qw qc qb qg qo cL cM 4 H.size (by first | assumption | decide)) (vx_cwSW 3 hts (goodIn_of _ (by decide +kernel)) rfl rfl rfl (by decide +kernel) ⟨Nat.le_of_ble_eq_true rfl, Nat.le_of_ble_eq_true rfl⟩) ⟨fun a U g mk q => by obtain ⟨q0, q1, qP, qK, qD, qZ⟩ := q; exact ⟨q0, q1, qP, va_K.moved (u := U) (U := U.calling g mk a) (Vm.Alike.refl U.vm) qK, qD, qZ.call⟩, fun U hU hW => ⟨rfl, by rw [hU], by rw [hU]; exact hPc, va_K.moved hW.alike hKc, hDc.weaken (fun _ _ _ _ => trivial), by rw [hU]; exact hZc.warm hW⟩⟩ rfl rfl hl.1 rfl (lv_room (Nat.le_of_ble_eq_true rfl)) dL_law_160 ⟨Nat.le_of_ble_eq_true rfl, Nat.le_of_ble_eq_true rfl⟩) hS (fun q _ h => hFc q h) hFc (fun r_3 u t H1 locs ht hvm hw hB hz1 hk1 hS => ?_)
  obtain ⟨hP1, hK1, hD1⟩ := hB
  rw [ht] at hP1
  have hK1 := va_K.moved hvm.symm hK1
  obtain ⟨hP, hD⟩ := va_join (wr := [(qt, .inl (cT, 4, .inr (.inr (.inr (.inr (fun _ => none)))))), (m0, .inr (12, [.int 0, .ref l1, .ref l2, .int 0, .int 0, .int 0, .long 0])), (l1, .inr (1, [.int 0, .ref a0, .int 0])), (l2, .inr (1, [.int 0, .ref a0, .int 0])), (qd, .inl (cD, 1, .inr (.inr (.inr (.inl (fun _ => 0))))))]) (w1 := [(qo, .inl (cL, 1, .inr (.inl (vp_updL (fun _ => 0) ((0 : Int32).toNatClampNeg) 0))))]) hP hD [0, 1, 6] [2, 3, 4, 5, 7] rfl rfl (by decide) (by decide) hk1 hFc hP1 hD1
  have hK := (hK.sub (tys' := [(cM, .object "Haltingale$Machine"), (cT, .object "Haltingale$Tag"), (cL, .long), (cD, .double)]) [0, 1, 2, 3] rfl).app hK1
  generalize H1 = H at hP hS ⊢
  have hP : va_P (dC, dI) vwCl [(qt, .inl (cT, 4, .inr (.inr (.inr (.inr (fun _ => none)))))), (m0, .inr (12, [.int 0, .ref l1, .ref l2, .int 0, .int 0, .int 0, .long 0])), (l1, .inr (1, [.int 0, .ref a0, .int 0])), (l2, .inr (1, [.int 0, .ref a0, .int 0])), (qd, .inl (cD, 1, .inr (.inr (.inr (.inl (fun _ => 0)))))), (qo, .inl (cL, 1, .inr (.inl (vp_updL (fun _ => 0) ((0 : Int32).toNatClampNeg) 0))))] H := hP
  have hD : va_D A [(qt, .inl (cT, 4, .inr (.inr (.inr (.inr (fun _ => none)))))), (m0, .inr (12, [.int 0, .ref l1, .ref l2, .int 0, .int 0, .int 0, .long 0])), (l1, .inr (1, [.int 0, .ref a0, .int 0])), (l2, .inr (1, [.int 0, .ref a0, .int 0])), (qd, .inl (cD, 1, .inr (.inr (.inr (.inl (fun _ => 0)))))), (qo, .inl (cL, 1, .inr (.inl (vp_updL (fun _ => 0) ((0 : Int32).toNatClampNeg) 0))))] := hD
  have hK : va_K (dC, dI) vwCl [(cM, .object "Haltingale$Machine"), (cT, .object "Haltingale$Tag"), (cL, .long), (cD, .double), (cL, .long)] s := hK
  refine W.widen (k := 35) (n := 4355) (Nat.le_of_ble_eq_true rfl) (Nat.le_of_ble_eq_true rfl) ?_
  obtain rfl : r_3 = 0 := hw
  refine lv_istore (lv' := [(6, .int 0), (5, .int 0), (4, .ref qd), (3, .ref qo), (2, .ref m0), (1, .ref x0), (0, .ref b)]) hx hb dL_law_163 hl (by decide) rfl (fun ls hl => ?_)
  refine lv_aload_n hx hb dL_law_165 rfl (lv_at hl 4 rfl) ?_
  refine lv_aload_n hx hb dL_law_166 rfl (lv_at hl 6 rfl) ?_
  refine lv_iload hx hb dL_law_167 (lv_at hl 1 rfl) ?_
  refine lv_iconst (v := 1) hx hb dL_law_169 (by decide) ?_
  refine lv_iadd hx hb dL_law_170 ?_
  refine lv_topi (fun x_4 ex_4 => ?_)
  obtain rfl : x_4 = 1 := ex_4.trans (by decide)
  refine va_sld hx hb hX hbl hbA hS (by unfold vp_in; decide) dL_law_171 ?_
  refine lv_topi (fun x_5 ex_5 => ?_)
  obtain rfl : x_5 = 4 := ex_5.trans (hp)
  have hPc := hP.sub (ws' := [(m0, .inr (12, [.int 0, .ref l1, .ref l2, .int 0, .int 0, .int 0, .long 0])), (l1, .inr (1, [.int 0, .ref a0, .int 0]))]) [1, 2] rfl
  have hDc := hD.sub (ws' := [(m0, .inr (12, [.int 0, .ref l1, .ref l2, .int 0, .int 0, .int 0, .long 0])), (l1, .inr (1, [.int 0, .ref a0, .int 0]))]) [1, 2] (by decide) rfl
  have hKc := hK.sub (tys' := []) [] rfl
  have hFc := va_free (wc := [(m0, .inr (12, [.int 0, .ref l1, .ref l2, .int 0, .int 0, .int 0, .long 0])), (l1, .inr (1, [.int 0, .ref a0, .int 0]))]) hD hS hA [1, 2] rfl
  have hZc := ((hZ.kept hS.2.1).narrow hFc)
  refine va_calli (va_runV (As := [.int 4]) (rest := []) ⟨hx, hb, hml, hown, hts⟩ (c_X10_machine_4 l hnt dC dI a0 m0 l1 l2 H.size ) (cwV 1 hts (goodIn_of _ (by decide +kernel)) rfl rfl rfl (by decide +kernel) ⟨Nat.le_of_ble_eq_true rfl, Nat.le_of_ble_eq_true rfl⟩) ⟨fun a U g mk q => by obtain ⟨q0, q1, qP, qK, qD, qZ⟩ := q; exact ⟨q0, q1, qP, va_K.moved (u := U) (U := U.calling g mk a) (Vm.Alike.refl U.vm) qK, qD, qZ.call⟩, va_recv hKc hPc (ci := 12) (q0 := 0) rfl rfl, fun U hU hW => ⟨rfl, by rw [hU], by rw [hU]; exact hPc, va_K.moved hW.alike hKc, hDc.weaken (fun _ _ _ _ => trivial), by rw [hU]; exact hZc.warm hW⟩⟩ rfl rfl hl.1 rfl (lv_room (Nat.le_of_ble_eq_true rfl)) dL_law_172 ⟨Nat.le_of_ble_eq_true rfl, Nat.le_of_ble_eq_true rfl⟩) hS (fun q _ h => hFc q h) hFc (fun r_6 u t H1 locs ht hvm hw hB hz1 hk1 hS => ?_)
  obtain ⟨hP1, hK1, hD1⟩ := hB
  rw [ht] at hP1
  have hK1 := va_K.moved hvm.symm hK1
  obtain ⟨hP, hD⟩ := va_join (wr := [(qt, .inl (cT, 4, .inr (.inr (.inr (.inr (fun _ => none)))))), (l2, .inr (1, [.int 0, .ref a0, .int 0])), (qd, .inl (cD, 1, .inr (.inr (.inr (.inl (fun _ => 0)))))), (qo, .inl (cL, 1, .inr (.inl (vp_updL (fun _ => 0) ((0 : Int32).toNatClampNeg) 0))))]) (w1 := [(m0, .inr (12, [.int 0, .ref l1, .ref l2, .int 0, .int 0, .int 0, .long 0]))]) hP hD [1, 2] [0, 3, 4, 5] rfl rfl (by decide) (by decide) hk1 hFc hP1 hD1
  have hK := (hK.sub (tys' := [(cM, .object "Haltingale$Machine"), (cT, .object "Haltingale$Tag"), (cL, .long), (cD, .double), (cL, .long)]) [0, 1, 2, 3, 4] rfl).app hK1
  generalize H1 = H at hP hS ⊢
  have hP : va_P (dC, dI) vwCl [(qt, .inl (cT, 4, .inr (.inr (.inr (.inr (fun _ => none)))))), (l2, .inr (1, [.int 0, .ref a0, .int 0])), (qd, .inl (cD, 1, .inr (.inr (.inr (.inl (fun _ => 0)))))), (qo, .inl (cL, 1, .inr (.inl (vp_updL (fun _ => 0) ((0 : Int32).toNatClampNeg) 0)))), (m0, .inr (12, [.int 0, .ref l1, .ref l2, .int 0, .int 0, .int 0, .long 0]))] H := hP
  have hD : va_D A [(qt, .inl (cT, 4, .inr (.inr (.inr (.inr (fun _ => none)))))), (l2, .inr (1, [.int 0, .ref a0, .int 0])), (qd, .inl (cD, 1, .inr (.inr (.inr (.inl (fun _ => 0)))))), (qo, .inl (cL, 1, .inr (.inl (vp_updL (fun _ => 0) ((0 : Int32).toNatClampNeg) 0)))), (m0, .inr (12, [.int 0, .ref l1, .ref l2, .int 0, .int 0, .int 0, .long 0]))] := hD
  have hK : va_K (dC, dI) vwCl [(cM, .object "Haltingale$Machine"), (cT, .object "Haltingale$Tag"), (cL, .long), (cD, .double), (cL, .long)] s := hK
  refine W.widen (k := 38) (n := 4378) (Nat.le_of_ble_eq_true rfl) (Nat.le_of_ble_eq_true rfl) ?_
  obtain rfl : r_6 = 0 := hw
  refine lv_istore (lv' := [(7, .int 0), (6, .int 0), (5, .int 0), (4, .ref qd), (3, .ref qo), (2, .ref m0), (1, .ref x0), (0, .ref b)]) hx hb dL_law_175 hl (by decide) rfl (fun ls hl => ?_)
  refine lv_aload_n hx hb dL_law_177 rfl (lv_at hl 5 rfl) ?_
  have hPc := hP.sub (ws' := [(m0, .inr (12, [.int 0, .ref l1, .ref l2, .int 0, .int 0, .int 0, .long 0]))]) [4] rfl
  have hDc := hD.sub (ws' := [(m0, .inr (12, [.int 0, .ref l1, .ref l2, .int 0, .int 0, .int 0, .long 0]))]) [4] (by decide) rfl
  have hKc := hK.sub (tys' := []) [] rfl
  have hFc := va_free (wc := [(m0, .inr (12, [.int 0, .ref l1, .ref l2, .int 0, .int 0, .int 0, .long 0]))]) hD hS hA [4] rfl
  have hZc := ((hZ.kept hS.2.1).narrow hFc)
  refine va_calli (va_runV (As := []) (rest := []) ⟨hx, hb, hml, hown, hts⟩ (c_X10_thrown l hnt dC dI a0 m0 l1 l2 0 H.size ) (cwV 0 hts (goodIn_of _ (by decide +kernel)) rfl rfl rfl (by decide +kernel) ⟨Nat.le_of_ble_eq_true rfl, Nat.le_of_ble_eq_true rfl⟩) ⟨fun a U g mk q => by obtain ⟨q0, q1, qP, qK, qD, qZ⟩ := q; exact ⟨q0, q1, qP, va_K.moved (u := U) (U := U.calling g mk a) (Vm.Alike.refl U.vm) qK, qD, qZ.call⟩, va_recv hKc hPc (ci := 12) (q0 := 0) rfl rfl, fun U hU hW => ⟨rfl, by rw [hU], by rw [hU]; exact hPc, va_K.moved hW.alike hKc, hDc.weaken (fun _ _ _ _ => trivial), by rw [hU]; exact hZc.warm hW⟩⟩ rfl rfl hl.1 rfl (lv_room (Nat.le_of_ble_eq_true rfl)) dL_law_178 ⟨Nat.le_of_ble_eq_true rfl, Nat.le_of_ble_eq_true rfl⟩) hS (fun q _ h => hFc q h) hFc (fun r_7 u t H1 locs ht hvm hw hB hz1 hk1 hS => ?_)
  obtain ⟨hP1, hK1, hD1⟩ := hB
  rw [ht] at hP1
  have hK1 := va_K.moved hvm.symm hK1
  obtain ⟨hP, hD⟩ := va_join (wr := [(qt, .inl (cT, 4, .inr (.inr (.inr (.inr (fun _ => none)))))), (l2, .inr (1, [.int 0, .ref a0, .int 0])), (qd, .inl (cD, 1, .inr (.inr (.inr (.inl (fun _ => 0)))))), (qo, .inl (cL, 1, .inr (.inl (vp_updL (fun _ => 0) ((0 : Int32).toNatClampNeg) 0))))]) (w1 := []) hP hD [4] [0, 1, 2, 3] rfl rfl (by decide) (by decide) hk1 hFc hP1 hD1
  have hK := (hK.sub (tys' := [(cM, .object "Haltingale$Machine"), (cT, .object "Haltingale$Tag"), (cL, .long), (cD, .double), (cL, .long)]) [0, 1, 2, 3, 4] rfl).app hK1
  generalize H1 = H at hP hS ⊢
  have hP : va_P (dC, dI) vwCl [(qt, .inl (cT, 4, .inr (.inr (.inr (.inr (fun _ => none)))))), (l2, .inr (1, [.int 0, .ref a0, .int 0])), (qd, .inl (cD, 1, .inr (.inr (.inr (.inl (fun _ => 0)))))), (qo, .inl (cL, 1, .inr (.inl (vp_updL (fun _ => 0) ((0 : Int32).toNatClampNeg) 0))))] H := hP
  have hD : va_D A [(qt, .inl (cT, 4, .inr (.inr (.inr (.inr (fun _ => none)))))), (l2, .inr (1, [.int 0, .ref a0, .int 0])), (qd, .inl (cD, 1, .inr (.inr (.inr (.inl (fun _ => 0)))))), (qo, .inl (cL, 1, .inr (.inl (vp_updL (fun _ => 0) ((0 : Int32).toNatClampNeg) 0))))] := hD
  have hK : va_K (dC, dI) vwCl [(cM, .object "Haltingale$Machine"), (cT, .object "Haltingale$Tag"), (cL, .long), (cD, .double), (cL, .long)] s := hK
  refine W.widen (k := 38) (n := 4378) (Nat.le_of_ble_eq_true rfl) (Nat.le_of_ble_eq_true rfl) ?_
  obtain rfl : r_7 = 0 := hw
  refine lv_iload hx hb dL_law_181 (lv_at hl 1 rfl) ?_
  refine lv_icmp_eq (tgt := 188) hx hb dL_law_183 (by decide) (fun c_8 => ?_) (fun c_8 => ?_)
  rotate_left
  · (first | exact absurd c_8 (by decide) | exact absurd (by decide) c_8)
  refine lv_iload hx hb dL_law_188 (lv_at hl 1 rfl) ?_
  refine lv_if_ne (tgt := 205) hx hb dL_law_190 (by decide) (fun c_9 => ?_) (fun c_9 => ?_)
  · (first | exact absurd c_9 (by decide) | exact absurd (by decide) c_9)
  refine lv_aload_n hx hb dL_law_193 rfl (lv_at hl 4 rfl) ?_
  refine lv_iconst (v := 0) hx hb dL_law_194 (by decide) ?_
  refine va_lald hx hb hK hP 3 2 rfl rfl (by unfold vp_in; decide) dL_law_195 ?_
  refine lv_topl (fun y_10 ey_10 => ?_)
  obtain rfl : y_10 = 0 := ey_10.trans (by decide +kernel)
  refine lv_iload hx hb dL_law_196 (lv_at hl 0 rfl) ?_
  refine lv_i2l (v := 0) hx hb dL_law_198 (by decide) ?_
  refine W.lcmp hx hb dL_law_199 ?_
  refine lv_topi (fun x_11 ex_11 => ?_)
  obtain rfl : x_11 = 0 := ex_11.trans (by decide +kernel)
  refine lv_if_eq (tgt := 205) hx hb dL_law_200 (by decide) (fun c_12 => ?_) (fun c_12 => ?_)
  rotate_left
  · (first | exact absurd c_12 (by decide) | exact absurd (by decide) c_12)
  refine lv_goto (tgt := 1806) hx hb dL_law_205 (by decide) ?_
  refine lv_iinc (v := 7) (lv' := [(5, .int 7), (7, .int 0), (6, .int 0), (4, .ref qd), (3, .ref qo), (2, .ref m0), (1, .ref x0), (0, .ref b)]) hx hb dL_law_1806 hl (k := 2) rfl (by decide) (by decide) rfl (fun ls hl => ?_)
  refine lv_goto (tgt := 28) hx hb dL_law_1809 (by decide) ?_
  refine lv_iload hx hb dL_law_28 (lv_at hl 0 rfl) ?_
  refine lv_aload_n hx hb dL_law_30 rfl (lv_at hl 7 rfl) ?_
  refine va_slen hx hb hX hbl hbA hS dL_law_31 ?_
  refine lv_topi (fun x_13 ex_13 => ?_)
  obtain rfl : x_13 = 7 := ex_13.trans (by decide)
  refine lv_bipush (v := 7) hx hb dL_law_32 (by decide) ?_
  refine lv_isub hx hb dL_law_34 ?_
  refine lv_topi (fun x_14 ex_14 => ?_)
  obtain rfl : x_14 = 0 := ex_14.trans (by decide)
  refine lv_icmp_gt (tgt := 1812) hx hb dL_law_35 (by decide) (fun c_15 => ?_) (fun c_15 => ?_)
  rotate_left
  · (first | exact absurd c_15 (by decide) | exact absurd (by decide) c_15)
  refine lv_iconst (v := 1) hx hb dL_law_1812 (by decide) ?_
  refine va_forget (fun q hq => hA2 _ (hS.2.2 q hq)) ?_
  refine W.widen (k := room_1.cells) (n := room_1.slots) (Nat.le_of_ble_eq_true rfl) (Nat.le_of_ble_eq_true rfl) ?_
  exact lw_ret0 hx hb hr hlocks dL_law_1813

set_option maxHeartbeats 4000000 in
set_option maxRecDepth 100000 in
/-- the law, case 4 -/
theorem law_4_ok {p : Program} {l : Launch} (hnt : l.stackTraces = false) {e : Env} {s : State} {m : MethodId} {below : List Frame} {meth : Method} {c : Code} {dC : Nat → ClassId} {dI : Nat → Nat → Nat} {a0 b : Nat} {xs : Nat → Int32} (C0 : lw_At p s m meth c b 7 xs) {A : Nat → Prop} (hA : ∀ q : Nat, s.heap.size ≤ q → A q) (hA2 : ∀ q : Nat, A q → s.heap.size ≤ q) (hZ : zB a0 A s s.heap) {x0 : Nat} {qm : Nat} {qt : Nat} {qw : Nat} {qc : Nat} {qb : Nat} {qg : Nat} {m0 : Nat} {l1 : Nat} {l2 : Nat} {qo : Nat} {qd : Nat} {cM : ClassId} {cT : ClassId} {cL : ClassId} {cD : ClassId} {H : Heap} {locs : List Loc} (hK : va_K (dC, dI) vwCl [(cM, .object "Haltingale$Machine"), (cT, .object "Haltingale$Tag"), (cL, .long), (cD, .double)] s) (hP : va_P (dC, dI) vwCl [(x0, .inr (9, [.ref qm, .ref qt, .ref qw, .ref qc, .ref qb, .ref qg, .int 0, .int 0, .int 0, .int 0, .int 0])), (qm, .inl (cM, 12, .inr (.inr (.inr (.inr (fun _ => none)))))), (qt, .inl (cT, 4, .inr (.inr (.inr (.inr (fun _ => none)))))), (m0, .inr (12, [.int 0, .ref l1, .ref l2, .int 0, .int 0, .int 0, .long 0])), (l1, .inr (1, [.int 0, .ref a0, .int 0])), (l2, .inr (1, [.int 0, .ref a0, .int 0])), (qo, .inl (cL, 1, .inr (.inl (fun _ => 0)))), (qd, .inl (cD, 1, .inr (.inr (.inr (.inl (fun _ => 0))))))] H) (hD : va_D A [(x0, .inr (9, [.ref qm, .ref qt, .ref qw, .ref qc, .ref qb, .ref qg, .int 0, .int 0, .int 0, .int 0, .int 0])), (qm, .inl (cM, 12, .inr (.inr (.inr (.inr (fun _ => none)))))), (qt, .inl (cT, 4, .inr (.inr (.inr (.inr (fun _ => none)))))), (m0, .inr (12, [.int 0, .ref l1, .ref l2, .int 0, .int 0, .int 0, .long 0])), (l1, .inr (1, [.int 0, .ref a0, .int 0])), (l2, .inr (1, [.int 0, .ref a0, .int 0])), (qo, .inl (cL, 1, .inr (.inl (fun _ => 0)))), (qd, .inl (cD, 1, .inr (.inr (.inr (.inl (fun _ => 0))))))]) (hS : va_S A s.heap H locs) {ls : Array Slot} (hl : lv_has ls 10 [(5, .int 0), (4, .ref qd), (3, .ref qo), (2, .ref m0), (1, .ref x0), (0, .ref b)]) (hp0 : zw (xs ((1 : Int32).toNatClampNeg)) 1 3 = 1) (hp1 : zw (xs ((2 : Int32).toNatClampNeg)) 1 63 = 1) (hp2 : zw (xs ((3 : Int32).toNatClampNeg)) 1 63 = 1) : W p l e room_1 s m #[Value.ref b] below meth c H locs 31 4324 (lw_Z below #[Value.ref b] s) (F0 m 519 ls []) := by
  obtain ⟨hx, hb, hr, hml, hown, hts0, hX, hbl, hlocks, hgv⟩ := C0
  have hts : ∀ w ∈ zs_law, w.before #[Value.ref b] s = true := fun w h => hts0 w (zs_law_in w h)
  have hbA : ¬ A b := fun h => absurd (hA2 b h) (Nat.not_le.mpr hbl)
  refine lv_aload_n hx hb dL_law_519 rfl (lv_at hl 4 rfl) ?_
  refine lv_aload_n hx hb dL_law_520 rfl (lv_at hl 5 rfl) ?_
  refine lv_iload hx hb dL_law_521 (lv_at hl 0 rfl) ?_
  refine lv_iconst (v := 1) hx hb dL_law_523 (by decide) ?_
  refine lv_iadd hx hb dL_law_524 ?_
  refine lv_topi (fun x_1 ex_1 => ?_)
  obtain rfl : x_1 = 1 := ex_1.trans (by decide)
  refine va_sld hx hb hX hbl hbA hS (by unfold vp_in; decide) dL_law_525 ?_
  refine lv_aload_n hx hb dL_law_526 rfl (lv_at hl 5 rfl) ?_
  refine lv_iload hx hb dL_law_527 (lv_at hl 0 rfl) ?_
  refine lv_iconst (v := 2) hx hb dL_law_529 (by decide) ?_
  refine lv_iadd hx hb dL_law_530 ?_
  refine lv_topi (fun x_2 ex_2 => ?_)
  obtain rfl : x_2 = 2 := ex_2.trans (by decide)
  refine va_sld hx hb hX hbl hbA hS (by unfold vp_in; decide) dL_law_531 ?_
  refine lv_aload_n hx hb dL_law_532 rfl (lv_at hl 5 rfl) ?_
  refine lv_iload hx hb dL_law_533 (lv_at hl 0 rfl) ?_
  refine lv_iconst (v := 3) hx hb dL_law_535 (by decide) ?_
  refine lv_iadd hx hb dL_law_536 ?_
  refine lv_topi (fun x_3 ex_3 => ?_)
  obtain rfl : x_3 = 3 := ex_3.trans (by decide)
  refine va_sld hx hb hX hbl hbA hS (by unfold vp_in; decide) dL_law_537 ?_
  refine lv_aload_n hx hb dL_law_538 rfl (lv_at hl 2 rfl) ?_
  have hPc := hP.sub (ws' := [(x0, .inr (9, [.ref qm, .ref qt, .ref qw, .ref qc, .ref qb, .ref qg, .int 0, .int 0, .int 0, .int 0, .int 0])), (qt, .inl (cT, 4, .inr (.inr (.inr (.inr (fun _ => none)))))), (qo, .inl (cL, 1, .inr (.inl (fun _ => 0))))]) [0, 2, 6] rfl
  have hDc := hD.sub (ws' := [(x0, .inr (9, [.ref qm, .ref qt, .ref qw, .ref qc, .ref qb, .ref qg, .int 0, .int 0, .int 0, .int 0, .int 0])), (qt, .inl (cT, 4, .inr (.inr (.inr (.inr (fun _ => none)))))), (qo, .inl (cL, 1, .inr (.inl (fun _ => 0))))]) [0, 2, 6] (by decide) rfl
  have hKc := hK.sub (tys' := [(cT, .object "Haltingale$Tag"), (cL, .long)]) [1, 2] rfl
  have hFc := va_free (wc := [(x0, .inr (9, [.ref qm, .ref qt, .ref qw, .ref qc, .ref qb, .ref qg, .int 0, .int 0, .int 0, .int 0, .int 0])), (qt, .inl (cT, 4, .inr (.inr (.inr (.inr (fun _ => none)))))), (qo, .inl (cL, 1, .inr (.inl (fun _ => 0))))]) hD hS hA [0, 2, 6] rfl
  have hZc := ((hZ.kept hS.2.1).narrow hFc)
  refine va_calli (vx_runSW (As := [.ref x0, .int (xs ((1 : Int32).toNatClampNeg)), .int (xs ((2 : Int32).toNatClampNeg)), .int (xs ((3 : Int32).toNatClampNeg)), .ref qo]) (rest := []) ⟨hx, hb, hml, hown, hts⟩ (c_L_tag_ok l hnt dC dI a0 x0 qm qt qw qc qb qg qo cL cT ((xs ((1 : Int32).toNatClampNeg))) ((xs ((2 : Int32).toNatClampNeg))) ((xs ((3 : Int32).toNatClampNeg))) H.size (by first | assumption | decide) (by first | assumption | decide) (by first | assumption | decide)) (vx_cwSW 5 hts (goodIn_of _ (by decide +kernel)) rfl rfl rfl (by decide +kernel) ⟨Nat.le_of_ble_eq_true rfl, Nat.le_of_ble_eq_true rfl⟩) ⟨fun a U g mk q => by obtain ⟨q0, q1, qP, qK, qD, qZ⟩ := q; exact ⟨q0, q1, qP, va_K.moved (u := U) (U := U.calling g mk a) (Vm.Alike.refl U.vm) qK, qD, qZ.call⟩, fun U hU hW => ⟨rfl, by rw [hU], by rw [hU]; exact hPc, va_K.moved hW.alike hKc, hDc.weaken (fun _ _ _ _ => trivial), by rw [hU]; exact hZc.warm hW⟩⟩ rfl rfl hl.1 rfl (lv_room (Nat.le_of_ble_eq_true rfl)) dL_law_539 ⟨Nat.le_of_ble_eq_true rfl, Nat.le_of_ble_eq_true rfl⟩) hS (fun q _ h => hFc q h) hFc (fun r_4 u t H1 locs ht hvm hw hB hz1 hk1 hS => ?_)
  obtain ⟨hP1, hK1, hD1⟩ := hB
  rw [ht] at hP1
  have hK1 := va_K.moved hvm.symm hK1
  obtain ⟨hP, hD⟩ := va_join (wr := [(qm, .inl (cM, 12, .inr (.inr (.inr (.inr (fun _ => none)))))), (m0, .inr (12, [.int 0, .ref l1, .ref l2, .int 0, .int 0, .int 0, .long 0])), (l1, .inr (1, [.int 0, .ref a0, .int 0])), (l2, .inr (1, [.int 0, .ref a0, .int 0])), (qd, .inl (cD, 1, .inr (.inr (.inr (.inl (fun _ => 0))))))]) (w1 := [(qo, .inl (cL, 1, .inr (.inl (vp_updL (fun _ => 0) ((0 : Int32).toNatClampNeg) 0))))]) hP hD [0, 2, 6] [1, 3, 4, 5, 7] rfl rfl (by decide) (by decide) hk1 hFc hP1 hD1
  have hK := (hK.sub (tys' := [(cM, .object "Haltingale$Machine"), (cT, .object "Haltingale$Tag"), (cL, .long), (cD, .double)]) [0, 1, 2, 3] rfl).app hK1
  generalize H1 = H at hP hS ⊢
  have hP : va_P (dC, dI) vwCl [(qm, .inl (cM, 12, .inr (.inr (.inr (.inr (fun _ => none)))))), (m0, .inr (12, [.int 0, .ref l1, .ref l2, .int 0, .int 0, .int 0, .long 0])), (l1, .inr (1, [.int 0, .ref a0, .int 0])), (l2, .inr (1, [.int 0, .ref a0, .int 0])), (qd, .inl (cD, 1, .inr (.inr (.inr (.inl (fun _ => 0)))))), (qo, .inl (cL, 1, .inr (.inl (vp_updL (fun _ => 0) ((0 : Int32).toNatClampNeg) 0))))] H := hP
  have hD : va_D A [(qm, .inl (cM, 12, .inr (.inr (.inr (.inr (fun _ => none)))))), (m0, .inr (12, [.int 0, .ref l1, .ref l2, .int 0, .int 0, .int 0, .long 0])), (l1, .inr (1, [.int 0, .ref a0, .int 0])), (l2, .inr (1, [.int 0, .ref a0, .int 0])), (qd, .inl (cD, 1, .inr (.inr (.inr (.inl (fun _ => 0)))))), (qo, .inl (cL, 1, .inr (.inl (vp_updL (fun _ => 0) ((0 : Int32).toNatClampNeg) 0))))] := hD
  have hK : va_K (dC, dI) vwCl [(cM, .object "Haltingale$Machine"), (cT, .object "Haltingale$Tag"), (cL, .long), (cD, .double), (cL, .long)] s := hK
  refine W.widen (k := 32) (n := 4327) (Nat.le_of_ble_eq_true rfl) (Nat.le_of_ble_eq_true rfl) ?_
  obtain rfl : r_4 = 0 := hw
  refine lv_istore (lv' := [(6, .int 0), (5, .int 0), (4, .ref qd), (3, .ref qo), (2, .ref m0), (1, .ref x0), (0, .ref b)]) hx hb dL_law_542 hl (by decide) rfl (fun ls hl => ?_)
  refine lv_aload_n hx hb dL_law_544 rfl (lv_at hl 4 rfl) ?_
  refine lv_aload_n hx hb dL_law_545 rfl (lv_at hl 6 rfl) ?_
  refine lv_iload hx hb dL_law_546 (lv_at hl 1 rfl) ?_
  refine lv_iconst (v := 1) hx hb dL_law_548 (by decide) ?_
  refine lv_iadd hx hb dL_law_549 ?_
  refine lv_topi (fun x_5 ex_5 => ?_)
  obtain rfl : x_5 = 1 := ex_5.trans (by decide)
  refine va_sld hx hb hX hbl hbA hS (by unfold vp_in; decide) dL_law_550 ?_
  refine lv_aload_n hx hb dL_law_551 rfl (lv_at hl 6 rfl) ?_
  refine lv_iload hx hb dL_law_552 (lv_at hl 1 rfl) ?_
  refine lv_iconst (v := 2) hx hb dL_law_554 (by decide) ?_
  refine lv_iadd hx hb dL_law_555 ?_
  refine lv_topi (fun x_6 ex_6 => ?_)
  obtain rfl : x_6 = 2 := ex_6.trans (by decide)
  refine va_sld hx hb hX hbl hbA hS (by unfold vp_in; decide) dL_law_556 ?_
  refine lv_aload_n hx hb dL_law_557 rfl (lv_at hl 6 rfl) ?_
  refine lv_iload hx hb dL_law_558 (lv_at hl 1 rfl) ?_
  refine lv_iconst (v := 3) hx hb dL_law_560 (by decide) ?_
  refine lv_iadd hx hb dL_law_561 ?_
  refine lv_topi (fun x_7 ex_7 => ?_)
  obtain rfl : x_7 = 3 := ex_7.trans (by decide)
  refine va_sld hx hb hX hbl hbA hS (by unfold vp_in; decide) dL_law_562 ?_
  have hPc := hP.sub (ws' := [(m0, .inr (12, [.int 0, .ref l1, .ref l2, .int 0, .int 0, .int 0, .long 0])), (l2, .inr (1, [.int 0, .ref a0, .int 0]))]) [1, 3] rfl
  have hDc := hD.sub (ws' := [(m0, .inr (12, [.int 0, .ref l1, .ref l2, .int 0, .int 0, .int 0, .long 0])), (l2, .inr (1, [.int 0, .ref a0, .int 0]))]) [1, 3] (by decide) rfl
  have hKc := hK.sub (tys' := []) [] rfl
  have hFc := va_free (wc := [(m0, .inr (12, [.int 0, .ref l1, .ref l2, .int 0, .int 0, .int 0, .long 0])), (l2, .inr (1, [.int 0, .ref a0, .int 0]))]) hD hS hA [1, 3] rfl
  have hZc := ((hZ.kept hS.2.1).narrow hFc)
  refine va_calli (va_runV (As := [.int (xs ((1 : Int32).toNatClampNeg)), .int (xs ((2 : Int32).toNatClampNeg)), .int (xs ((3 : Int32).toNatClampNeg))]) (rest := []) ⟨hx, hb, hml, hown, hts⟩ (c_X10_tag_ok l hnt dC dI a0 m0 l1 l2 ((xs ((1 : Int32).toNatClampNeg))) ((xs ((2 : Int32).toNatClampNeg))) ((xs ((3 : Int32).toNatClampNeg))) H.size (by first | assumption | decide) (by first | assumption | decide) (by first | assumption | decide)) (cwV 3 hts (goodIn_of _ (by decide +kernel)) rfl rfl rfl (by decide +kernel) ⟨Nat.le_of_ble_eq_true rfl, Nat.le_of_ble_eq_true rfl⟩) ⟨fun a U g mk q => by obtain ⟨q0, q1, qP, qK, qD, qZ⟩ := q; exact ⟨q0, q1, qP, va_K.moved (u := U) (U := U.calling g mk a) (Vm.Alike.refl U.vm) qK, qD, qZ.call⟩, va_recv hKc hPc (ci := 12) (q0 := 0) rfl rfl, fun U hU hW => ⟨rfl, by rw [hU], by rw [hU]; exact hPc, va_K.moved hW.alike hKc, hDc.weaken (fun _ _ _ _ => trivial), by rw [hU]; exact hZc.warm hW⟩⟩ rfl rfl hl.1 rfl (lv_room (Nat.le_of_ble_eq_true rfl)) dL_law_563 ⟨Nat.le_of_ble_eq_true rfl, Nat.le_of_ble_eq_true rfl⟩) hS (fun q _ h => hFc q h) hFc (fun r_8 u t H1 locs ht hvm hw hB hz1 hk1 hS => ?_)
  obtain ⟨hP1, hK1, hD1⟩ := hB
  rw [ht] at hP1
  have hK1 := va_K.moved hvm.symm hK1
  obtain ⟨hP, hD⟩ := va_join (wr := [(qm, .inl (cM, 12, .inr (.inr (.inr (.inr (fun _ => none)))))), (l1, .inr (1, [.int 0, .ref a0, .int 0])), (qd, .inl (cD, 1, .inr (.inr (.inr (.inl (fun _ => 0)))))), (qo, .inl (cL, 1, .inr (.inl (vp_updL (fun _ => 0) ((0 : Int32).toNatClampNeg) 0))))]) (w1 := [(m0, .inr (12, [.int 0, .ref l1, .ref l2, .int 0, .int 0, .int 0, .long 0]))]) hP hD [1, 3] [0, 2, 4, 5] rfl rfl (by decide) (by decide) hk1 hFc hP1 hD1
  have hK := (hK.sub (tys' := [(cM, .object "Haltingale$Machine"), (cT, .object "Haltingale$Tag"), (cL, .long), (cD, .double), (cL, .long)]) [0, 1, 2, 3, 4] rfl).app hK1
  generalize H1 = H at hP hS ⊢
  have hP : va_P (dC, dI) vwCl [(qm, .inl (cM, 12, .inr (.inr (.inr (.inr (fun _ => none)))))), (l1, .inr (1, [.int 0, .ref a0, .int 0])), (qd, .inl (cD, 1, .inr (.inr (.inr (.inl (fun _ => 0)))))), (qo, .inl (cL, 1, .inr (.inl (vp_updL (fun _ => 0) ((0 : Int32).toNatClampNeg) 0)))), (m0, .inr (12, [.int 0, .ref l1, .ref l2, .int 0, .int 0, .int 0, .long 0]))] H := hP
  have hD : va_D A [(qm, .inl (cM, 12, .inr (.inr (.inr (.inr (fun _ => none)))))), (l1, .inr (1, [.int 0, .ref a0, .int 0])), (qd, .inl (cD, 1, .inr (.inr (.inr (.inl (fun _ => 0)))))), (qo, .inl (cL, 1, .inr (.inl (vp_updL (fun _ => 0) ((0 : Int32).toNatClampNeg) 0)))), (m0, .inr (12, [.int 0, .ref l1, .ref l2, .int 0, .int 0, .int 0, .long 0]))] := hD
  have hK : va_K (dC, dI) vwCl [(cM, .object "Haltingale$Machine"), (cT, .object "Haltingale$Tag"), (cL, .long), (cD, .double), (cL, .long)] s := hK
  refine W.widen (k := 34) (n := 4340) (Nat.le_of_ble_eq_true rfl) (Nat.le_of_ble_eq_true rfl) ?_
  obtain rfl : r_8 = 0 := hw
  refine lv_istore (lv' := [(7, .int 0), (6, .int 0), (5, .int 0), (4, .ref qd), (3, .ref qo), (2, .ref m0), (1, .ref x0), (0, .ref b)]) hx hb dL_law_566 hl (by decide) rfl (fun ls hl => ?_)
  refine lv_aload_n hx hb dL_law_568 rfl (lv_at hl 5 rfl) ?_
  have hPc := hP.sub (ws' := [(m0, .inr (12, [.int 0, .ref l1, .ref l2, .int 0, .int 0, .int 0, .long 0]))]) [4] rfl
  have hDc := hD.sub (ws' := [(m0, .inr (12, [.int 0, .ref l1, .ref l2, .int 0, .int 0, .int 0, .long 0]))]) [4] (by decide) rfl
  have hKc := hK.sub (tys' := []) [] rfl
  have hFc := va_free (wc := [(m0, .inr (12, [.int 0, .ref l1, .ref l2, .int 0, .int 0, .int 0, .long 0]))]) hD hS hA [4] rfl
  have hZc := ((hZ.kept hS.2.1).narrow hFc)
  refine va_calli (va_runV (As := []) (rest := []) ⟨hx, hb, hml, hown, hts⟩ (c_X10_thrown l hnt dC dI a0 m0 l1 l2 0 H.size ) (cwV 0 hts (goodIn_of _ (by decide +kernel)) rfl rfl rfl (by decide +kernel) ⟨Nat.le_of_ble_eq_true rfl, Nat.le_of_ble_eq_true rfl⟩) ⟨fun a U g mk q => by obtain ⟨q0, q1, qP, qK, qD, qZ⟩ := q; exact ⟨q0, q1, qP, va_K.moved (u := U) (U := U.calling g mk a) (Vm.Alike.refl U.vm) qK, qD, qZ.call⟩, va_recv hKc hPc (ci := 12) (q0 := 0) rfl rfl, fun U hU hW => ⟨rfl, by rw [hU], by rw [hU]; exact hPc, va_K.moved hW.alike hKc, hDc.weaken (fun _ _ _ _ => trivial), by rw [hU]; exact hZc.warm hW⟩⟩ rfl rfl hl.1 rfl (lv_room (Nat.le_of_ble_eq_true rfl)) dL_law_569 ⟨Nat.le_of_ble_eq_true rfl, Nat.le_of_ble_eq_true rfl⟩) hS (fun q _ h => hFc q h) hFc (fun r_9 u t H1 locs ht hvm hw hB hz1 hk1 hS => ?_)
  obtain ⟨hP1, hK1, hD1⟩ := hB
  rw [ht] at hP1
  have hK1 := va_K.moved hvm.symm hK1
  obtain ⟨hP, hD⟩ := va_join (wr := [(qm, .inl (cM, 12, .inr (.inr (.inr (.inr (fun _ => none)))))), (l1, .inr (1, [.int 0, .ref a0, .int 0])), (qd, .inl (cD, 1, .inr (.inr (.inr (.inl (fun _ => 0)))))), (qo, .inl (cL, 1, .inr (.inl (vp_updL (fun _ => 0) ((0 : Int32).toNatClampNeg) 0))))]) (w1 := []) hP hD [4] [0, 1, 2, 3] rfl rfl (by decide) (by decide) hk1 hFc hP1 hD1
  have hK := (hK.sub (tys' := [(cM, .object "Haltingale$Machine"), (cT, .object "Haltingale$Tag"), (cL, .long), (cD, .double), (cL, .long)]) [0, 1, 2, 3, 4] rfl).app hK1
  generalize H1 = H at hP hS ⊢
  have hP : va_P (dC, dI) vwCl [(qm, .inl (cM, 12, .inr (.inr (.inr (.inr (fun _ => none)))))), (l1, .inr (1, [.int 0, .ref a0, .int 0])), (qd, .inl (cD, 1, .inr (.inr (.inr (.inl (fun _ => 0)))))), (qo, .inl (cL, 1, .inr (.inl (vp_updL (fun _ => 0) ((0 : Int32).toNatClampNeg) 0))))] H := hP
  have hD : va_D A [(qm, .inl (cM, 12, .inr (.inr (.inr (.inr (fun _ => none)))))), (l1, .inr (1, [.int 0, .ref a0, .int 0])), (qd, .inl (cD, 1, .inr (.inr (.inr (.inl (fun _ => 0)))))), (qo, .inl (cL, 1, .inr (.inl (vp_updL (fun _ => 0) ((0 : Int32).toNatClampNeg) 0))))] := hD
  have hK : va_K (dC, dI) vwCl [(cM, .object "Haltingale$Machine"), (cT, .object "Haltingale$Tag"), (cL, .long), (cD, .double), (cL, .long)] s := hK
  refine W.widen (k := 34) (n := 4340) (Nat.le_of_ble_eq_true rfl) (Nat.le_of_ble_eq_true rfl) ?_
  obtain rfl : r_9 = 0 := hw
  refine lv_iload hx hb dL_law_572 (lv_at hl 1 rfl) ?_
  refine lv_icmp_eq (tgt := 579) hx hb dL_law_574 (by decide) (fun c_10 => ?_) (fun c_10 => ?_)
  rotate_left
  · (first | exact absurd c_10 (by decide) | exact absurd (by decide) c_10)
  refine lv_iload hx hb dL_law_579 (lv_at hl 1 rfl) ?_
  refine lv_if_ne (tgt := 596) hx hb dL_law_581 (by decide) (fun c_11 => ?_) (fun c_11 => ?_)
  · (first | exact absurd c_11 (by decide) | exact absurd (by decide) c_11)
  refine lv_aload_n hx hb dL_law_584 rfl (lv_at hl 4 rfl) ?_
  refine lv_iconst (v := 0) hx hb dL_law_585 (by decide) ?_
  refine va_lald hx hb hK hP 3 2 rfl rfl (by unfold vp_in; decide) dL_law_586 ?_
  refine lv_topl (fun y_12 ey_12 => ?_)
  obtain rfl : y_12 = 0 := ey_12.trans (by decide +kernel)
  refine lv_iload hx hb dL_law_587 (lv_at hl 0 rfl) ?_
  refine lv_i2l (v := 0) hx hb dL_law_589 (by decide) ?_
  refine W.lcmp hx hb dL_law_590 ?_
  refine lv_topi (fun x_13 ex_13 => ?_)
  obtain rfl : x_13 = 0 := ex_13.trans (by decide +kernel)
  refine lv_if_eq (tgt := 596) hx hb dL_law_591 (by decide) (fun c_14 => ?_) (fun c_14 => ?_)
  rotate_left
  · (first | exact absurd c_14 (by decide) | exact absurd (by decide) c_14)
  refine lv_goto (tgt := 1806) hx hb dL_law_596 (by decide) ?_
  refine lv_iinc (v := 7) (lv' := [(5, .int 7), (7, .int 0), (6, .int 0), (4, .ref qd), (3, .ref qo), (2, .ref m0), (1, .ref x0), (0, .ref b)]) hx hb dL_law_1806 hl (k := 2) rfl (by decide) (by decide) rfl (fun ls hl => ?_)
  refine lv_goto (tgt := 28) hx hb dL_law_1809 (by decide) ?_
  refine lv_iload hx hb dL_law_28 (lv_at hl 0 rfl) ?_
  refine lv_aload_n hx hb dL_law_30 rfl (lv_at hl 7 rfl) ?_
  refine va_slen hx hb hX hbl hbA hS dL_law_31 ?_
  refine lv_topi (fun x_15 ex_15 => ?_)
  obtain rfl : x_15 = 7 := ex_15.trans (by decide)
  refine lv_bipush (v := 7) hx hb dL_law_32 (by decide) ?_
  refine lv_isub hx hb dL_law_34 ?_
  refine lv_topi (fun x_16 ex_16 => ?_)
  obtain rfl : x_16 = 0 := ex_16.trans (by decide)
  refine lv_icmp_gt (tgt := 1812) hx hb dL_law_35 (by decide) (fun c_17 => ?_) (fun c_17 => ?_)
  rotate_left
  · (first | exact absurd c_17 (by decide) | exact absurd (by decide) c_17)
  refine lv_iconst (v := 1) hx hb dL_law_1812 (by decide) ?_
  refine va_forget (fun q hq => hA2 _ (hS.2.2 q hq)) ?_
  refine W.widen (k := room_1.cells) (n := room_1.slots) (Nat.le_of_ble_eq_true rfl) (Nat.le_of_ble_eq_true rfl) ?_
  exact lw_ret0 hx hb hr hlocks dL_law_1813

set_option maxHeartbeats 4000000 in
set_option maxRecDepth 100000 in
/-- the law, case 22 -/
theorem law_22 {p : Program} {l : Launch} (hnt : l.stackTraces = false) {e : Env} {s : State} {m : MethodId} {below : List Frame} {meth : Method} {c : Code} {dC : Nat → ClassId} {dI : Nat → Nat → Nat} {a0 b : Nat} {xs : Nat → Int32} (C0 : lw_At p s m meth c b 7 xs) {A : Nat → Prop} (hA : ∀ q : Nat, s.heap.size ≤ q → A q) (hA2 : ∀ q : Nat, A q → s.heap.size ≤ q) (hZ : zB a0 A s s.heap) {x0 : Nat} {qm : Nat} {qt : Nat} {qw : Nat} {qc : Nat} {qb : Nat} {qg : Nat} {m0 : Nat} {l1 : Nat} {l2 : Nat} {qo : Nat} {qd : Nat} {cM : ClassId} {cT : ClassId} {cL : ClassId} {cD : ClassId} {H : Heap} {locs : List Loc} (hK : va_K (dC, dI) vwCl [(cM, .object "Haltingale$Machine"), (cT, .object "Haltingale$Tag"), (cL, .long), (cD, .double)] s) (hP : va_P (dC, dI) vwCl [(x0, .inr (9, [.ref qm, .ref qt, .ref qw, .ref qc, .ref qb, .ref qg, .int 0, .int 0, .int 0, .int 0, .int 0])), (qm, .inl (cM, 12, .inr (.inr (.inr (.inr (fun _ => none)))))), (qt, .inl (cT, 4, .inr (.inr (.inr (.inr (fun _ => none)))))), (m0, .inr (12, [.int 0, .ref l1, .ref l2, .int 0, .int 0, .int 0, .long 0])), (l1, .inr (1, [.int 0, .ref a0, .int 0])), (l2, .inr (1, [.int 0, .ref a0, .int 0])), (qo, .inl (cL, 1, .inr (.inl (fun _ => 0)))), (qd, .inl (cD, 1, .inr (.inr (.inr (.inl (fun _ => 0))))))] H) (hD : va_D A [(x0, .inr (9, [.ref qm, .ref qt, .ref qw, .ref qc, .ref qb, .ref qg, .int 0, .int 0, .int 0, .int 0, .int 0])), (qm, .inl (cM, 12, .inr (.inr (.inr (.inr (fun _ => none)))))), (qt, .inl (cT, 4, .inr (.inr (.inr (.inr (fun _ => none)))))), (m0, .inr (12, [.int 0, .ref l1, .ref l2, .int 0, .int 0, .int 0, .long 0])), (l1, .inr (1, [.int 0, .ref a0, .int 0])), (l2, .inr (1, [.int 0, .ref a0, .int 0])), (qo, .inl (cL, 1, .inr (.inl (fun _ => 0)))), (qd, .inl (cD, 1, .inr (.inr (.inr (.inl (fun _ => 0))))))]) (hS : va_S A s.heap H locs) {ls : Array Slot} (hl : lv_has ls 10 [(5, .int 0), (4, .ref qd), (3, .ref qo), (2, .ref m0), (1, .ref x0), (0, .ref b)])  : W p l e room_1 s m #[Value.ref b] below meth c H locs 31 4324 (lw_Z below #[Value.ref b] s) (F0 m 1792 ls []) := by
  obtain ⟨hx, hb, hr, hml, hown, hts0, hX, hbl, hlocks, hgv⟩ := C0
  have hts : ∀ w ∈ zs_law, w.before #[Value.ref b] s = true := fun w h => hts0 w (zs_law_in w h)
  have hbA : ¬ A b := fun h => absurd (hA2 b h) (Nat.not_le.mpr hbl)
  refine lv_aload_n hx hb dL_law_1792 rfl (lv_at hl 4 rfl) ?_
  have hPc := hP.sub (ws' := [(x0, .inr (9, [.ref qm, .ref qt, .ref qw, .ref qc, .ref qb, .ref qg, .int 0, .int 0, .int 0, .int 0, .int 0]))]) [0] rfl
  have hDc := hD.sub (ws' := [(x0, .inr (9, [.ref qm, .ref qt, .ref qw, .ref qc, .ref qb, .ref qg, .int 0, .int 0, .int 0, .int 0, .int 0]))]) [0] (by decide) rfl
  have hKc := hK.sub (tys' := []) [] rfl
  have hFc := va_free (wc := [(x0, .inr (9, [.ref qm, .ref qt, .ref qw, .ref qc, .ref qb, .ref qg, .int 0, .int 0, .int 0, .int 0, .int 0]))]) hD hS hA [0] rfl
  have hZc := ((hZ.kept hS.2.1).narrow hFc)
  refine va_calll (va_runV (As := []) (rest := []) ⟨hx, hb, hml, hown, hts⟩ (c_X7_digest l hnt dC dI a0 x0 qm qt qw qc qb qg H.size ) (cwV 0 hts (goodIn_of _ (by decide +kernel)) rfl rfl rfl (by decide +kernel) ⟨Nat.le_of_ble_eq_true rfl, Nat.le_of_ble_eq_true rfl⟩) ⟨fun a U g mk q => by obtain ⟨q0, q1, qP, qK, qD, qZ⟩ := q; exact ⟨q0, q1, qP, va_K.moved (u := U) (U := U.calling g mk a) (Vm.Alike.refl U.vm) qK, qD, qZ.call⟩, va_recv hKc hPc (ci := 9) (q0 := 0) rfl rfl, fun U hU hW => ⟨rfl, by rw [hU], by rw [hU]; exact hPc, va_K.moved hW.alike hKc, hDc.weaken (fun _ _ _ _ => trivial), by rw [hU]; exact hZc.warm hW⟩⟩ rfl rfl hl.1 rfl (lv_room (Nat.le_of_ble_eq_true rfl)) dL_law_1793 ⟨Nat.le_of_ble_eq_true rfl, Nat.le_of_ble_eq_true rfl⟩) hS (fun q _ h => hFc q h) hFc (fun r_1 u t H1 locs ht hvm hw hB hz1 hk1 hS => ?_)
  obtain ⟨hP1, hK1, hD1⟩ := hB
  rw [ht] at hP1
  have hK1 := va_K.moved hvm.symm hK1
  obtain ⟨hP, hD⟩ := va_join (wr := [(qm, .inl (cM, 12, .inr (.inr (.inr (.inr (fun _ => none)))))), (qt, .inl (cT, 4, .inr (.inr (.inr (.inr (fun _ => none)))))), (m0, .inr (12, [.int 0, .ref l1, .ref l2, .int 0, .int 0, .int 0, .long 0])), (l1, .inr (1, [.int 0, .ref a0, .int 0])), (l2, .inr (1, [.int 0, .ref a0, .int 0])), (qo, .inl (cL, 1, .inr (.inl (fun _ => 0)))), (qd, .inl (cD, 1, .inr (.inr (.inr (.inl (fun _ => 0))))))]) (w1 := []) hP hD [0] [1, 2, 3, 4, 5, 6, 7] rfl rfl (by decide) (by decide) hk1 hFc hP1 hD1
  have hK := (hK.sub (tys' := [(cM, .object "Haltingale$Machine"), (cT, .object "Haltingale$Tag"), (cL, .long), (cD, .double)]) [0, 1, 2, 3] rfl).app hK1
  generalize H1 = H at hP hS ⊢
  have hP : va_P (dC, dI) vwCl [(qm, .inl (cM, 12, .inr (.inr (.inr (.inr (fun _ => none)))))), (qt, .inl (cT, 4, .inr (.inr (.inr (.inr (fun _ => none)))))), (m0, .inr (12, [.int 0, .ref l1, .ref l2, .int 0, .int 0, .int 0, .long 0])), (l1, .inr (1, [.int 0, .ref a0, .int 0])), (l2, .inr (1, [.int 0, .ref a0, .int 0])), (qo, .inl (cL, 1, .inr (.inl (fun _ => 0)))), (qd, .inl (cD, 1, .inr (.inr (.inr (.inl (fun _ => 0))))))] H := hP
  have hD : va_D A [(qm, .inl (cM, 12, .inr (.inr (.inr (.inr (fun _ => none)))))), (qt, .inl (cT, 4, .inr (.inr (.inr (.inr (fun _ => none)))))), (m0, .inr (12, [.int 0, .ref l1, .ref l2, .int 0, .int 0, .int 0, .long 0])), (l1, .inr (1, [.int 0, .ref a0, .int 0])), (l2, .inr (1, [.int 0, .ref a0, .int 0])), (qo, .inl (cL, 1, .inr (.inl (fun _ => 0)))), (qd, .inl (cD, 1, .inr (.inr (.inr (.inl (fun _ => 0))))))] := hD
  have hK : va_K (dC, dI) vwCl [(cM, .object "Haltingale$Machine"), (cT, .object "Haltingale$Tag"), (cL, .long), (cD, .double)] s := hK
  refine W.widen (k := 31) (n := 4324) (Nat.le_of_ble_eq_true rfl) (Nat.le_of_ble_eq_true rfl) ?_
  obtain rfl : r_1 = 483314258739949443 := hw
  refine lv_aload_n hx hb dL_law_1796 rfl (lv_at hl 3 rfl) ?_
  have hPc := hP.sub (ws' := [(m0, .inr (12, [.int 0, .ref l1, .ref l2, .int 0, .int 0, .int 0, .long 0])), (l1, .inr (1, [.int 0, .ref a0, .int 0])), (l2, .inr (1, [.int 0, .ref a0, .int 0]))]) [2, 3, 4] rfl
  have hDc := hD.sub (ws' := [(m0, .inr (12, [.int 0, .ref l1, .ref l2, .int 0, .int 0, .int 0, .long 0])), (l1, .inr (1, [.int 0, .ref a0, .int 0])), (l2, .inr (1, [.int 0, .ref a0, .int 0]))]) [2, 3, 4] (by decide) rfl
  have hKc := hK.sub (tys' := []) [] rfl
  have hFc := va_free (wc := [(m0, .inr (12, [.int 0, .ref l1, .ref l2, .int 0, .int 0, .int 0, .long 0])), (l1, .inr (1, [.int 0, .ref a0, .int 0])), (l2, .inr (1, [.int 0, .ref a0, .int 0]))]) hD hS hA [2, 3, 4] rfl
  have hZc := ((hZ.kept hS.2.1).narrow hFc)
  refine va_calll (va_runV (As := []) (rest := [.long 483314258739949443]) ⟨hx, hb, hml, hown, hts⟩ (c_X10_digest l hnt dC dI a0 m0 l1 l2 H.size ) (cwV 0 hts (goodIn_of _ (by decide +kernel)) rfl rfl rfl (by decide +kernel) ⟨Nat.le_of_ble_eq_true rfl, Nat.le_of_ble_eq_true rfl⟩) ⟨fun a U g mk q => by obtain ⟨q0, q1, qP, qK, qD, qZ⟩ := q; exact ⟨q0, q1, qP, va_K.moved (u := U) (U := U.calling g mk a) (Vm.Alike.refl U.vm) qK, qD, qZ.call⟩, va_recv hKc hPc (ci := 12) (q0 := 0) rfl rfl, fun U hU hW => ⟨rfl, by rw [hU], by rw [hU]; exact hPc, va_K.moved hW.alike hKc, hDc.weaken (fun _ _ _ _ => trivial), by rw [hU]; exact hZc.warm hW⟩⟩ rfl rfl hl.1 rfl (lv_room (Nat.le_of_ble_eq_true rfl)) dL_law_1797 ⟨Nat.le_of_ble_eq_true rfl, Nat.le_of_ble_eq_true rfl⟩) hS (fun q _ h => hFc q h) hFc (fun r_2 u t H1 locs ht hvm hw hB hz1 hk1 hS => ?_)
  obtain ⟨hP1, hK1, hD1⟩ := hB
  rw [ht] at hP1
  have hK1 := va_K.moved hvm.symm hK1
  obtain ⟨hP, hD⟩ := va_join (wr := [(qm, .inl (cM, 12, .inr (.inr (.inr (.inr (fun _ => none)))))), (qt, .inl (cT, 4, .inr (.inr (.inr (.inr (fun _ => none)))))), (qo, .inl (cL, 1, .inr (.inl (fun _ => 0)))), (qd, .inl (cD, 1, .inr (.inr (.inr (.inl (fun _ => 0))))))]) (w1 := [(m0, .inr (12, [.int 0, .ref l1, .ref l2, .int 0, .int 0, .int 0, .long 483314258739949443]))]) hP hD [2, 3, 4] [0, 1, 5, 6] rfl rfl (by decide) (by decide) hk1 hFc hP1 hD1
  have hK := (hK.sub (tys' := [(cM, .object "Haltingale$Machine"), (cT, .object "Haltingale$Tag"), (cL, .long), (cD, .double)]) [0, 1, 2, 3] rfl).app hK1
  generalize H1 = H at hP hS ⊢
  have hP : va_P (dC, dI) vwCl [(qm, .inl (cM, 12, .inr (.inr (.inr (.inr (fun _ => none)))))), (qt, .inl (cT, 4, .inr (.inr (.inr (.inr (fun _ => none)))))), (qo, .inl (cL, 1, .inr (.inl (fun _ => 0)))), (qd, .inl (cD, 1, .inr (.inr (.inr (.inl (fun _ => 0)))))), (m0, .inr (12, [.int 0, .ref l1, .ref l2, .int 0, .int 0, .int 0, .long 483314258739949443]))] H := hP
  have hD : va_D A [(qm, .inl (cM, 12, .inr (.inr (.inr (.inr (fun _ => none)))))), (qt, .inl (cT, 4, .inr (.inr (.inr (.inr (fun _ => none)))))), (qo, .inl (cL, 1, .inr (.inl (fun _ => 0)))), (qd, .inl (cD, 1, .inr (.inr (.inr (.inl (fun _ => 0)))))), (m0, .inr (12, [.int 0, .ref l1, .ref l2, .int 0, .int 0, .int 0, .long 483314258739949443]))] := hD
  have hK : va_K (dC, dI) vwCl [(cM, .object "Haltingale$Machine"), (cT, .object "Haltingale$Tag"), (cL, .long), (cD, .double)] s := hK
  refine W.widen (k := 65) (n := 4548) (Nat.le_of_ble_eq_true rfl) (Nat.le_of_ble_eq_true rfl) ?_
  obtain rfl : r_2 = 483314258739949443 := hw
  refine W.lcmp hx hb dL_law_1800 ?_
  refine lv_topi (fun x_3 ex_3 => ?_)
  obtain rfl : x_3 = 0 := ex_3.trans (by decide +kernel)
  refine lv_if_eq (tgt := 1806) hx hb dL_law_1801 (by decide) (fun c_4 => ?_) (fun c_4 => ?_)
  rotate_left
  · (first | exact absurd c_4 (by decide) | exact absurd (by decide) c_4)
  refine lv_iinc (v := 7) (lv' := [(5, .int 7), (4, .ref qd), (3, .ref qo), (2, .ref m0), (1, .ref x0), (0, .ref b)]) hx hb dL_law_1806 hl (k := 0) rfl (by decide) (by decide) rfl (fun ls hl => ?_)
  refine lv_goto (tgt := 28) hx hb dL_law_1809 (by decide) ?_
  refine lv_iload hx hb dL_law_28 (lv_at hl 0 rfl) ?_
  refine lv_aload_n hx hb dL_law_30 rfl (lv_at hl 5 rfl) ?_
  refine va_slen hx hb hX hbl hbA hS dL_law_31 ?_
  refine lv_topi (fun x_5 ex_5 => ?_)
  obtain rfl : x_5 = 7 := ex_5.trans (by decide)
  refine lv_bipush (v := 7) hx hb dL_law_32 (by decide) ?_
  refine lv_isub hx hb dL_law_34 ?_
  refine lv_topi (fun x_6 ex_6 => ?_)
  obtain rfl : x_6 = 0 := ex_6.trans (by decide)
  refine lv_icmp_gt (tgt := 1812) hx hb dL_law_35 (by decide) (fun c_7 => ?_) (fun c_7 => ?_)
  rotate_left
  · (first | exact absurd c_7 (by decide) | exact absurd (by decide) c_7)
  refine lv_iconst (v := 1) hx hb dL_law_1812 (by decide) ?_
  refine va_forget (fun q hq => hA2 _ (hS.2.2 q hq)) ?_
  refine W.widen (k := room_1.cells) (n := room_1.slots) (Nat.le_of_ble_eq_true rfl) (Nat.le_of_ble_eq_true rfl) ?_
  exact lw_ret0 hx hb hr hlocks dL_law_1813

set_option maxHeartbeats 4000000 in
set_option maxRecDepth 100000 in
/-- the law, no case -/
theorem law_rest {p : Program} {l : Launch} (hnt : l.stackTraces = false) {e : Env} {s : State} {m : MethodId} {below : List Frame} {meth : Method} {c : Code} {dC : Nat → ClassId} {dI : Nat → Nat → Nat} {a0 b : Nat} {xs : Nat → Int32} (C0 : lw_At p s m meth c b 7 xs) {A : Nat → Prop} (hA : ∀ q : Nat, s.heap.size ≤ q → A q) (hA2 : ∀ q : Nat, A q → s.heap.size ≤ q) (hZ : zB a0 A s s.heap) {x0 : Nat} {qm : Nat} {qt : Nat} {qw : Nat} {qc : Nat} {qb : Nat} {qg : Nat} {m0 : Nat} {l1 : Nat} {l2 : Nat} {qo : Nat} {qd : Nat} {cM : ClassId} {cT : ClassId} {cL : ClassId} {cD : ClassId} {H : Heap} {locs : List Loc} (hK : va_K (dC, dI) vwCl [(cM, .object "Haltingale$Machine"), (cT, .object "Haltingale$Tag"), (cL, .long), (cD, .double)] s) (hP : va_P (dC, dI) vwCl [(x0, .inr (9, [.ref qm, .ref qt, .ref qw, .ref qc, .ref qb, .ref qg, .int 0, .int 0, .int 0, .int 0, .int 0])), (qm, .inl (cM, 12, .inr (.inr (.inr (.inr (fun _ => none)))))), (qt, .inl (cT, 4, .inr (.inr (.inr (.inr (fun _ => none)))))), (m0, .inr (12, [.int 0, .ref l1, .ref l2, .int 0, .int 0, .int 0, .long 0])), (l1, .inr (1, [.int 0, .ref a0, .int 0])), (l2, .inr (1, [.int 0, .ref a0, .int 0])), (qo, .inl (cL, 1, .inr (.inl (fun _ => 0)))), (qd, .inl (cD, 1, .inr (.inr (.inr (.inl (fun _ => 0))))))] H) (hD : va_D A [(x0, .inr (9, [.ref qm, .ref qt, .ref qw, .ref qc, .ref qb, .ref qg, .int 0, .int 0, .int 0, .int 0, .int 0])), (qm, .inl (cM, 12, .inr (.inr (.inr (.inr (fun _ => none)))))), (qt, .inl (cT, 4, .inr (.inr (.inr (.inr (fun _ => none)))))), (m0, .inr (12, [.int 0, .ref l1, .ref l2, .int 0, .int 0, .int 0, .long 0])), (l1, .inr (1, [.int 0, .ref a0, .int 0])), (l2, .inr (1, [.int 0, .ref a0, .int 0])), (qo, .inl (cL, 1, .inr (.inl (fun _ => 0)))), (qd, .inl (cD, 1, .inr (.inr (.inr (.inl (fun _ => 0))))))]) (hS : va_S A s.heap H locs) {ls : Array Slot} (hl : lv_has ls 10 [(5, .int 0), (4, .ref qd), (3, .ref qo), (2, .ref m0), (1, .ref x0), (0, .ref b)])  : W p l e room_1 s m #[Value.ref b] below meth c H locs 31 4324 (lw_Z below #[Value.ref b] s) (F0 m 1806 ls []) := by
  obtain ⟨hx, hb, hr, hml, hown, hts0, hX, hbl, hlocks, hgv⟩ := C0
  have hts : ∀ w ∈ zs_law, w.before #[Value.ref b] s = true := fun w h => hts0 w (zs_law_in w h)
  have hbA : ¬ A b := fun h => absurd (hA2 b h) (Nat.not_le.mpr hbl)
  refine lv_iinc (v := 7) (lv' := [(5, .int 7), (4, .ref qd), (3, .ref qo), (2, .ref m0), (1, .ref x0), (0, .ref b)]) hx hb dL_law_1806 hl (k := 0) rfl (by decide) (by decide) rfl (fun ls hl => ?_)
  refine lv_goto (tgt := 28) hx hb dL_law_1809 (by decide) ?_
  refine lv_iload hx hb dL_law_28 (lv_at hl 0 rfl) ?_
  refine lv_aload_n hx hb dL_law_30 rfl (lv_at hl 5 rfl) ?_
  refine va_slen hx hb hX hbl hbA hS dL_law_31 ?_
  refine lv_topi (fun x_1 ex_1 => ?_)
  obtain rfl : x_1 = 7 := ex_1.trans (by decide)
  refine lv_bipush (v := 7) hx hb dL_law_32 (by decide) ?_
  refine lv_isub hx hb dL_law_34 ?_
  refine lv_topi (fun x_2 ex_2 => ?_)
  obtain rfl : x_2 = 0 := ex_2.trans (by decide)
  refine lv_icmp_gt (tgt := 1812) hx hb dL_law_35 (by decide) (fun c_3 => ?_) (fun c_3 => ?_)
  rotate_left
  · (first | exact absurd c_3 (by decide) | exact absurd (by decide) c_3)
  refine lv_iconst (v := 1) hx hb dL_law_1812 (by decide) ?_
  refine va_forget (fun q hq => hA2 _ (hS.2.2 q hq)) ?_
  refine W.widen (k := room_1.cells) (n := room_1.slots) (Nat.le_of_ble_eq_true rfl) (Nat.le_of_ble_eq_true rfl) ?_
  exact lw_ret0 hx hb hr hlocks dL_law_1813
