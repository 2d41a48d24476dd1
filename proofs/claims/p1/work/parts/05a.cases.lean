set_option maxHeartbeats 4000000 in
set_option maxRecDepth 100000 in
/-- the law, case 1 -/
theorem law_1 {p : Program} {l : Launch} (hnt : l.stackTraces = false) {e : Env} {s : State} {m : MethodId} {below : List Frame} {meth : Method} {c : Code} {dC : Nat → ClassId} {dI : Nat → Nat → Nat} {a0 b : Nat} {xs : Nat → Int32} (C0 : lw_At p s m meth c b 7 xs) {A : Nat → Prop} (hA : ∀ q : Nat, s.heap.size ≤ q → A q) (hA2 : ∀ q : Nat, A q → s.heap.size ≤ q) (hZ : zB a0 A s s.heap) {x0 : Nat} {qm : Nat} {qt : Nat} {qw : Nat} {qc : Nat} {qb : Nat} {qg : Nat} {m0 : Nat} {l1 : Nat} {l2 : Nat} {qo : Nat} {qd : Nat} {cM : ClassId} {cT : ClassId} {cL : ClassId} {cD : ClassId} {H : Heap} {locs : List Loc} (hK : va_K (dC, dI) vwCl [(cM, .object "Haltingale$Machine"), (cT, .object "Haltingale$Tag"), (cL, .long), (cD, .double)] s) (hP : va_P (dC, dI) vwCl [(x0, .inr (9, [.ref qm, .ref qt, .ref qw, .ref qc, .ref qb, .ref qg, .int 0, .int 0, .int 0, .int 0, .int 0])), (qm, .inl (cM, 12, .inr (.inr (.inr (.inr (fun _ => none)))))), (qt, .inl (cT, 4, .inr (.inr (.inr (.inr (fun _ => none)))))), (m0, .inr (12, [.int 0, .ref l1, .ref l2, .int 0, .int 0, .int 0, .long 0])), (l1, .inr (1, [.int 0, .ref a0, .int 0])), (l2, .inr (1, [.int 0, .ref a0, .int 0])), (qo, .inl (cL, 1, .inr (.inl (fun _ => 0)))), (qd, .inl (cD, 1, .inr (.inr (.inr (.inl (fun _ => 0))))))] H) (hD : va_D A [(x0, .inr (9, [.ref qm, .ref qt, .ref qw, .ref qc, .ref qb, .ref qg, .int 0, .int 0, .int 0, .int 0, .int 0])), (qm, .inl (cM, 12, .inr (.inr (.inr (.inr (fun _ => none)))))), (qt, .inl (cT, 4, .inr (.inr (.inr (.inr (fun _ => none)))))), (m0, .inr (12, [.int 0, .ref l1, .ref l2, .int 0, .int 0, .int 0, .long 0])), (l1, .inr (1, [.int 0, .ref a0, .int 0])), (l2, .inr (1, [.int 0, .ref a0, .int 0])), (qo, .inl (cL, 1, .inr (.inl (fun _ => 0)))), (qd, .inl (cD, 1, .inr (.inr (.inr (.inl (fun _ => 0))))))]) (hS : va_S A s.heap H locs) {ls : Array Slot} (hl : lv_has ls 10 [(5, .int 0), (4, .ref qd), (3, .ref qo), (2, .ref m0), (1, .ref x0), (0, .ref b)])  : W p l e room_1 s m #[Value.ref b] below meth c H locs 31 4324 (lw_Z below #[Value.ref b] s) (F0 m 208 ls []) := by
  obtain ⟨hx, hb, hr, hml, hown, hts0, hX, hbl, hlocks, hgv⟩ := C0
  have hts : ∀ w ∈ zs_law, w.before #[Value.ref b] s = true := fun w h => hts0 w (zs_law_in w h)
  have hbA : ¬ A b := fun h => absurd (hA2 b h) (Nat.not_le.mpr hbl)
  refine lv_aload_n hx hb dL_law_208 rfl (lv_at hl 4 rfl) ?_
  refine lv_aload_n hx hb dL_law_209 rfl (lv_at hl 5 rfl) ?_
  refine lv_iload hx hb dL_law_210 (lv_at hl 0 rfl) ?_
  refine lv_iconst (v := 1) hx hb dL_law_212 (by decide) ?_
  refine lv_iadd hx hb dL_law_213 ?_
  refine lv_topi (fun x_1 ex_1 => ?_)
  obtain rfl : x_1 = 1 := ex_1.trans (by decide)
  refine va_sld hx hb hX hbl hbA hS (by unfold vp_in; decide) dL_law_214 ?_
  refine lv_aload_n hx hb dL_law_215 rfl (lv_at hl 5 rfl) ?_
  refine lv_iload hx hb dL_law_216 (lv_at hl 0 rfl) ?_
  refine lv_iconst (v := 2) hx hb dL_law_218 (by decide) ?_
  refine lv_iadd hx hb dL_law_219 ?_
  refine lv_topi (fun x_2 ex_2 => ?_)
  obtain rfl : x_2 = 2 := ex_2.trans (by decide)
  refine va_sld hx hb hX hbl hbA hS (by unfold vp_in; decide) dL_law_220 ?_
  refine lv_aload_n hx hb dL_law_221 rfl (lv_at hl 5 rfl) ?_
  refine lv_iload hx hb dL_law_222 (lv_at hl 0 rfl) ?_
  refine lv_iconst (v := 3) hx hb dL_law_224 (by decide) ?_
  refine lv_iadd hx hb dL_law_225 ?_
  refine lv_topi (fun x_3 ex_3 => ?_)
  obtain rfl : x_3 = 3 := ex_3.trans (by decide)
  refine va_sld hx hb hX hbl hbA hS (by unfold vp_in; decide) dL_law_226 ?_
  refine lv_aload_n hx hb dL_law_227 rfl (lv_at hl 5 rfl) ?_
  refine lv_iload hx hb dL_law_228 (lv_at hl 0 rfl) ?_
  refine lv_iconst (v := 4) hx hb dL_law_230 (by decide) ?_
  refine lv_iadd hx hb dL_law_231 ?_
  refine lv_topi (fun x_4 ex_4 => ?_)
  obtain rfl : x_4 = 4 := ex_4.trans (by decide)
  refine va_sld hx hb hX hbl hbA hS (by unfold vp_in; decide) dL_law_232 ?_
  refine lv_aload_n hx hb dL_law_233 rfl (lv_at hl 5 rfl) ?_
  refine lv_iload hx hb dL_law_234 (lv_at hl 0 rfl) ?_
  refine lv_iconst (v := 5) hx hb dL_law_236 (by decide) ?_
  refine lv_iadd hx hb dL_law_237 ?_
  refine lv_topi (fun x_5 ex_5 => ?_)
  obtain rfl : x_5 = 5 := ex_5.trans (by decide)
  refine va_sld hx hb hX hbl hbA hS (by unfold vp_in; decide) dL_law_238 ?_
  refine lv_aload_n hx hb dL_law_239 rfl (lv_at hl 5 rfl) ?_
  refine lv_iload hx hb dL_law_240 (lv_at hl 0 rfl) ?_
  refine lv_bipush (v := 6) hx hb dL_law_242 (by decide) ?_
  refine lv_iadd hx hb dL_law_244 ?_
  refine lv_topi (fun x_6 ex_6 => ?_)
  obtain rfl : x_6 = 6 := ex_6.trans (by decide)
  refine va_sld hx hb hX hbl hbA hS (by unfold vp_in; decide) dL_law_245 ?_
  refine lv_aload_n hx hb dL_law_246 rfl (lv_at hl 2 rfl) ?_
  have hPc := hP.sub (ws' := [(x0, .inr (9, [.ref qm, .ref qt, .ref qw, .ref qc, .ref qb, .ref qg, .int 0, .int 0, .int 0, .int 0, .int 0])), (qo, .inl (cL, 1, .inr (.inl (fun _ => 0))))]) [0, 6] rfl
  have hDc := hD.sub (ws' := [(x0, .inr (9, [.ref qm, .ref qt, .ref qw, .ref qc, .ref qb, .ref qg, .int 0, .int 0, .int 0, .int 0, .int 0])), (qo, .inl (cL, 1, .inr (.inl (fun _ => 0))))]) [0, 6] (by decide) rfl
  have hKc := hK.sub (tys' := [(cL, .long)]) [2] rfl
  have hFc := va_free (wc := [(x0, .inr (9, [.ref qm, .ref qt, .ref qw, .ref qc, .ref qb, .ref qg, .int 0, .int 0, .int 0, .int 0, .int 0])), (qo, .inl (cL, 1, .inr (.inl (fun _ => 0))))]) hD hS hA [0, 6] rfl
  have hZc := ((hZ.kept hS.2.1).narrow hFc)
  refine va_calli (vx_runSW (As := [.ref x0, .int (xs ((1 : Int32).toNatClampNeg)), .int (xs ((2 : Int32).toNatClampNeg)), .int (xs ((3 : Int32).toNatClampNeg)), .int (xs ((4 : Int32).toNatClampNeg)), .int (xs ((5 : Int32).toNatClampNeg)), .int (xs ((6 : Int32).toNatClampNeg)), .ref qo]) (rest := []) ⟨hx, hb, hml, hown, hts⟩ (c_L_tell l hnt dC dI a0 x0 qm qt qw qc qb qg qo cL ((xs ((1 : Int32).toNatClampNeg))) ((xs ((2 : Int32).toNatClampNeg))) ((xs ((3 : Int32).toNatClampNeg))) ((xs ((4 : Int32).toNatClampNeg))) ((xs ((5 : Int32).toNatClampNeg))) ((xs ((6 : Int32).toNatClampNeg))) H.size ) (vx_cwSW 8 hts (goodIn_of _ (by decide +kernel)) rfl rfl rfl (by decide +kernel) ⟨Nat.le_of_ble_eq_true rfl, Nat.le_of_ble_eq_true rfl⟩) ⟨fun a U g mk q => by obtain ⟨q0, q1, qP, qK, qD, qZ⟩ := q; exact ⟨q0, q1, qP, va_K.moved (u := U) (U := U.calling g mk a) (Vm.Alike.refl U.vm) qK, qD, qZ.call⟩, fun U hU hW => ⟨rfl, by rw [hU], by rw [hU]; exact hPc, va_K.moved hW.alike hKc, hDc.weaken (fun _ _ _ _ => trivial), by rw [hU]; exact hZc.warm hW⟩⟩ rfl rfl hl.1 rfl (lv_room (Nat.le_of_ble_eq_true rfl)) dL_law_247 ⟨Nat.le_of_ble_eq_true rfl, Nat.le_of_ble_eq_true rfl⟩) hS (fun q _ h => hFc q h) hFc (fun r_7 u t H1 locs ht hvm hw hB hz1 hk1 hS => ?_)
  obtain ⟨hP1, hK1, hD1⟩ := hB
  rw [ht] at hP1
  have hK1 := va_K.moved hvm.symm hK1
  obtain ⟨hP, hD⟩ := va_join (wr := [(qm, .inl (cM, 12, .inr (.inr (.inr (.inr (fun _ => none)))))), (qt, .inl (cT, 4, .inr (.inr (.inr (.inr (fun _ => none)))))), (m0, .inr (12, [.int 0, .ref l1, .ref l2, .int 0, .int 0, .int 0, .long 0])), (l1, .inr (1, [.int 0, .ref a0, .int 0])), (l2, .inr (1, [.int 0, .ref a0, .int 0])), (qd, .inl (cD, 1, .inr (.inr (.inr (.inl (fun _ => 0))))))]) (w1 := []) hP hD [0, 6] [1, 2, 3, 4, 5, 7] rfl rfl (by decide) (by decide) hk1 hFc hP1 hD1
  have hK := (hK.sub (tys' := [(cM, .object "Haltingale$Machine"), (cT, .object "Haltingale$Tag"), (cL, .long), (cD, .double)]) [0, 1, 2, 3] rfl).app hK1
  generalize H1 = H at hP hS ⊢
  have hP : va_P (dC, dI) vwCl [(qm, .inl (cM, 12, .inr (.inr (.inr (.inr (fun _ => none)))))), (qt, .inl (cT, 4, .inr (.inr (.inr (.inr (fun _ => none)))))), (m0, .inr (12, [.int 0, .ref l1, .ref l2, .int 0, .int 0, .int 0, .long 0])), (l1, .inr (1, [.int 0, .ref a0, .int 0])), (l2, .inr (1, [.int 0, .ref a0, .int 0])), (qd, .inl (cD, 1, .inr (.inr (.inr (.inl (fun _ => 0))))))] H := hP
  have hD : va_D A [(qm, .inl (cM, 12, .inr (.inr (.inr (.inr (fun _ => none)))))), (qt, .inl (cT, 4, .inr (.inr (.inr (.inr (fun _ => none)))))), (m0, .inr (12, [.int 0, .ref l1, .ref l2, .int 0, .int 0, .int 0, .long 0])), (l1, .inr (1, [.int 0, .ref a0, .int 0])), (l2, .inr (1, [.int 0, .ref a0, .int 0])), (qd, .inl (cD, 1, .inr (.inr (.inr (.inl (fun _ => 0))))))] := hD
  have hK : va_K (dC, dI) vwCl [(cM, .object "Haltingale$Machine"), (cT, .object "Haltingale$Tag"), (cL, .long), (cD, .double)] s := hK
  refine W.widen (k := 32) (n := 4330) (Nat.le_of_ble_eq_true rfl) (Nat.le_of_ble_eq_true rfl) ?_
  obtain rfl : r_7 = 1 := hw
  refine lv_istore (lv' := [(6, .int 1), (5, .int 0), (4, .ref qd), (3, .ref qo), (2, .ref m0), (1, .ref x0), (0, .ref b)]) hx hb dL_law_250 hl (by decide) rfl (fun ls hl => ?_)
  refine lv_aload_n hx hb dL_law_252 rfl (lv_at hl 4 rfl) ?_
  refine lv_aload_n hx hb dL_law_253 rfl (lv_at hl 6 rfl) ?_
  refine lv_iload hx hb dL_law_254 (lv_at hl 1 rfl) ?_
  refine lv_iconst (v := 1) hx hb dL_law_256 (by decide) ?_
  refine lv_iadd hx hb dL_law_257 ?_
  refine lv_topi (fun x_8 ex_8 => ?_)
  obtain rfl : x_8 = 1 := ex_8.trans (by decide)
  refine va_sld hx hb hX hbl hbA hS (by unfold vp_in; decide) dL_law_258 ?_
  refine lv_aload_n hx hb dL_law_259 rfl (lv_at hl 6 rfl) ?_
  refine lv_iload hx hb dL_law_260 (lv_at hl 1 rfl) ?_
  refine lv_iconst (v := 2) hx hb dL_law_262 (by decide) ?_
  refine lv_iadd hx hb dL_law_263 ?_
  refine lv_topi (fun x_9 ex_9 => ?_)
  obtain rfl : x_9 = 2 := ex_9.trans (by decide)
  refine va_sld hx hb hX hbl hbA hS (by unfold vp_in; decide) dL_law_264 ?_
  refine lv_aload_n hx hb dL_law_265 rfl (lv_at hl 6 rfl) ?_
  refine lv_iload hx hb dL_law_266 (lv_at hl 1 rfl) ?_
  refine lv_iconst (v := 3) hx hb dL_law_268 (by decide) ?_
  refine lv_iadd hx hb dL_law_269 ?_
  refine lv_topi (fun x_10 ex_10 => ?_)
  obtain rfl : x_10 = 3 := ex_10.trans (by decide)
  refine va_sld hx hb hX hbl hbA hS (by unfold vp_in; decide) dL_law_270 ?_
  refine lv_aload_n hx hb dL_law_271 rfl (lv_at hl 6 rfl) ?_
  refine lv_iload hx hb dL_law_272 (lv_at hl 1 rfl) ?_
  refine lv_iconst (v := 4) hx hb dL_law_274 (by decide) ?_
  refine lv_iadd hx hb dL_law_275 ?_
  refine lv_topi (fun x_11 ex_11 => ?_)
  obtain rfl : x_11 = 4 := ex_11.trans (by decide)
  refine va_sld hx hb hX hbl hbA hS (by unfold vp_in; decide) dL_law_276 ?_
  refine lv_aload_n hx hb dL_law_277 rfl (lv_at hl 6 rfl) ?_
  refine lv_iload hx hb dL_law_278 (lv_at hl 1 rfl) ?_
  refine lv_iconst (v := 5) hx hb dL_law_280 (by decide) ?_
  refine lv_iadd hx hb dL_law_281 ?_
  refine lv_topi (fun x_12 ex_12 => ?_)
  obtain rfl : x_12 = 5 := ex_12.trans (by decide)
  refine va_sld hx hb hX hbl hbA hS (by unfold vp_in; decide) dL_law_282 ?_
  refine lv_aload_n hx hb dL_law_283 rfl (lv_at hl 6 rfl) ?_
  refine lv_iload hx hb dL_law_284 (lv_at hl 1 rfl) ?_
  refine lv_bipush (v := 6) hx hb dL_law_286 (by decide) ?_
  refine lv_iadd hx hb dL_law_288 ?_
  refine lv_topi (fun x_13 ex_13 => ?_)
  obtain rfl : x_13 = 6 := ex_13.trans (by decide)
  refine va_sld hx hb hX hbl hbA hS (by unfold vp_in; decide) dL_law_289 ?_
  have hPc := hP.sub (ws' := [(m0, .inr (12, [.int 0, .ref l1, .ref l2, .int 0, .int 0, .int 0, .long 0])), (l1, .inr (1, [.int 0, .ref a0, .int 0]))]) [2, 3] rfl
  have hDc := hD.sub (ws' := [(m0, .inr (12, [.int 0, .ref l1, .ref l2, .int 0, .int 0, .int 0, .long 0])), (l1, .inr (1, [.int 0, .ref a0, .int 0]))]) [2, 3] (by decide) rfl
  have hKc := hK.sub (tys' := []) [] rfl
  have hFc := va_free (wc := [(m0, .inr (12, [.int 0, .ref l1, .ref l2, .int 0, .int 0, .int 0, .long 0])), (l1, .inr (1, [.int 0, .ref a0, .int 0]))]) hD hS hA [2, 3] rfl
  have hZc := ((hZ.kept hS.2.1).narrow hFc)
  refine va_calli (va_runV (As := [.int (xs ((1 : Int32).toNatClampNeg)), .int (xs ((2 : Int32).toNatClampNeg)), .int (xs ((3 : Int32).toNatClampNeg)), .int (xs ((4 : Int32).toNatClampNeg)), .int (xs ((5 : Int32).toNatClampNeg)), .int (xs ((6 : Int32).toNatClampNeg))]) (rest := []) ⟨hx, hb, hml, hown, hts⟩ (c_X10_tell l hnt dC dI a0 m0 l1 l2 ((xs ((1 : Int32).toNatClampNeg))) ((xs ((2 : Int32).toNatClampNeg))) ((xs ((3 : Int32).toNatClampNeg))) ((xs ((4 : Int32).toNatClampNeg))) ((xs ((5 : Int32).toNatClampNeg))) ((xs ((6 : Int32).toNatClampNeg))) H.size ) (cwV 6 hts (goodIn_of _ (by decide +kernel)) rfl rfl rfl (by decide +kernel) ⟨Nat.le_of_ble_eq_true rfl, Nat.le_of_ble_eq_true rfl⟩) ⟨fun a U g mk q => by obtain ⟨q0, q1, qP, qK, qD, qZ⟩ := q; exact ⟨q0, q1, qP, va_K.moved (u := U) (U := U.calling g mk a) (Vm.Alike.refl U.vm) qK, qD, qZ.call⟩, va_recv hKc hPc (ci := 12) (q0 := 0) rfl rfl, fun U hU hW => ⟨rfl, by rw [hU], by rw [hU]; exact hPc, va_K.moved hW.alike hKc, hDc.weaken (fun _ _ _ _ => trivial), by rw [hU]; exact hZc.warm hW⟩⟩ rfl rfl hl.1 rfl (lv_room (Nat.le_of_ble_eq_true rfl)) dL_law_290 ⟨Nat.le_of_ble_eq_true rfl, Nat.le_of_ble_eq_true rfl⟩) hS (fun q _ h => hFc q h) hFc (fun r_14 u t H1 locs ht hvm hw hB hz1 hk1 hS => ?_)
  obtain ⟨hP1, hK1, hD1⟩ := hB
  rw [ht] at hP1
  have hK1 := va_K.moved hvm.symm hK1
  obtain ⟨hP, hD⟩ := va_join (wr := [(qm, .inl (cM, 12, .inr (.inr (.inr (.inr (fun _ => none)))))), (qt, .inl (cT, 4, .inr (.inr (.inr (.inr (fun _ => none)))))), (l2, .inr (1, [.int 0, .ref a0, .int 0])), (qd, .inl (cD, 1, .inr (.inr (.inr (.inl (fun _ => 0))))))]) (w1 := [(m0, .inr (12, [.int 1, .ref l1, .ref l2, .int 0, .int 0, .int 0, .long 0]))]) hP hD [2, 3] [0, 1, 4, 5] rfl rfl (by decide) (by decide) hk1 hFc hP1 hD1
  have hK := (hK.sub (tys' := [(cM, .object "Haltingale$Machine"), (cT, .object "Haltingale$Tag"), (cL, .long), (cD, .double)]) [0, 1, 2, 3] rfl).app hK1
  generalize H1 = H at hP hS ⊢
  have hP : va_P (dC, dI) vwCl [(qm, .inl (cM, 12, .inr (.inr (.inr (.inr (fun _ => none)))))), (qt, .inl (cT, 4, .inr (.inr (.inr (.inr (fun _ => none)))))), (l2, .inr (1, [.int 0, .ref a0, .int 0])), (qd, .inl (cD, 1, .inr (.inr (.inr (.inl (fun _ => 0)))))), (m0, .inr (12, [.int 1, .ref l1, .ref l2, .int 0, .int 0, .int 0, .long 0]))] H := hP
  have hD : va_D A [(qm, .inl (cM, 12, .inr (.inr (.inr (.inr (fun _ => none)))))), (qt, .inl (cT, 4, .inr (.inr (.inr (.inr (fun _ => none)))))), (l2, .inr (1, [.int 0, .ref a0, .int 0])), (qd, .inl (cD, 1, .inr (.inr (.inr (.inl (fun _ => 0)))))), (m0, .inr (12, [.int 1, .ref l1, .ref l2, .int 0, .int 0, .int 0, .long 0]))] := hD
  have hK : va_K (dC, dI) vwCl [(cM, .object "Haltingale$Machine"), (cT, .object "Haltingale$Tag"), (cL, .long), (cD, .double)] s := hK
  refine W.widen (k := 32) (n := 4330) (Nat.le_of_ble_eq_true rfl) (Nat.le_of_ble_eq_true rfl) ?_
  obtain rfl : r_14 = 0 := hw
  refine lv_istore (lv' := [(7, .int 0), (6, .int 1), (5, .int 0), (4, .ref qd), (3, .ref qo), (2, .ref m0), (1, .ref x0), (0, .ref b)]) hx hb dL_law_293 hl (by decide) rfl (fun ls hl => ?_)
  refine lv_aload_n hx hb dL_law_295 rfl (lv_at hl 5 rfl) ?_
  have hPc := hP.sub (ws' := [(m0, .inr (12, [.int 1, .ref l1, .ref l2, .int 0, .int 0, .int 0, .long 0]))]) [4] rfl
  have hDc := hD.sub (ws' := [(m0, .inr (12, [.int 1, .ref l1, .ref l2, .int 0, .int 0, .int 0, .long 0]))]) [4] (by decide) rfl
  have hKc := hK.sub (tys' := []) [] rfl
  have hFc := va_free (wc := [(m0, .inr (12, [.int 1, .ref l1, .ref l2, .int 0, .int 0, .int 0, .long 0]))]) hD hS hA [4] rfl
  have hZc := ((hZ.kept hS.2.1).narrow hFc)
  refine va_calli (va_runV (As := []) (rest := []) ⟨hx, hb, hml, hown, hts⟩ (c_X10_thrown l hnt dC dI a0 m0 l1 l2 1 H.size ) (cwV 0 hts (goodIn_of _ (by decide +kernel)) rfl rfl rfl (by decide +kernel) ⟨Nat.le_of_ble_eq_true rfl, Nat.le_of_ble_eq_true rfl⟩) ⟨fun a U g mk q => by obtain ⟨q0, q1, qP, qK, qD, qZ⟩ := q; exact ⟨q0, q1, qP, va_K.moved (u := U) (U := U.calling g mk a) (Vm.Alike.refl U.vm) qK, qD, qZ.call⟩, va_recv hKc hPc (ci := 12) (q0 := 0) rfl rfl, fun U hU hW => ⟨rfl, by rw [hU], by rw [hU]; exact hPc, va_K.moved hW.alike hKc, hDc.weaken (fun _ _ _ _ => trivial), by rw [hU]; exact hZc.warm hW⟩⟩ rfl rfl hl.1 rfl (lv_room (Nat.le_of_ble_eq_true rfl)) dL_law_296 ⟨Nat.le_of_ble_eq_true rfl, Nat.le_of_ble_eq_true rfl⟩) hS (fun q _ h => hFc q h) hFc (fun r_15 u t H1 locs ht hvm hw hB hz1 hk1 hS => ?_)
  obtain ⟨hP1, hK1, hD1⟩ := hB
  rw [ht] at hP1
  have hK1 := va_K.moved hvm.symm hK1
  obtain ⟨hP, hD⟩ := va_join (wr := [(qm, .inl (cM, 12, .inr (.inr (.inr (.inr (fun _ => none)))))), (qt, .inl (cT, 4, .inr (.inr (.inr (.inr (fun _ => none)))))), (l2, .inr (1, [.int 0, .ref a0, .int 0])), (qd, .inl (cD, 1, .inr (.inr (.inr (.inl (fun _ => 0))))))]) (w1 := []) hP hD [4] [0, 1, 2, 3] rfl rfl (by decide) (by decide) hk1 hFc hP1 hD1
  have hK := (hK.sub (tys' := [(cM, .object "Haltingale$Machine"), (cT, .object "Haltingale$Tag"), (cL, .long), (cD, .double)]) [0, 1, 2, 3] rfl).app hK1
  generalize H1 = H at hP hS ⊢
  have hP : va_P (dC, dI) vwCl [(qm, .inl (cM, 12, .inr (.inr (.inr (.inr (fun _ => none)))))), (qt, .inl (cT, 4, .inr (.inr (.inr (.inr (fun _ => none)))))), (l2, .inr (1, [.int 0, .ref a0, .int 0])), (qd, .inl (cD, 1, .inr (.inr (.inr (.inl (fun _ => 0))))))] H := hP
  have hD : va_D A [(qm, .inl (cM, 12, .inr (.inr (.inr (.inr (fun _ => none)))))), (qt, .inl (cT, 4, .inr (.inr (.inr (.inr (fun _ => none)))))), (l2, .inr (1, [.int 0, .ref a0, .int 0])), (qd, .inl (cD, 1, .inr (.inr (.inr (.inl (fun _ => 0))))))] := hD
  have hK : va_K (dC, dI) vwCl [(cM, .object "Haltingale$Machine"), (cT, .object "Haltingale$Tag"), (cL, .long), (cD, .double)] s := hK
  refine W.widen (k := 32) (n := 4330) (Nat.le_of_ble_eq_true rfl) (Nat.le_of_ble_eq_true rfl) ?_
  obtain rfl : r_15 = 1 := hw
  refine lv_iload hx hb dL_law_299 (lv_at hl 1 rfl) ?_
  refine lv_icmp_eq (tgt := 306) hx hb dL_law_301 (by decide) (fun c_16 => ?_) (fun c_16 => ?_)
  rotate_left
  · (first | exact absurd c_16 (by decide) | exact absurd (by decide) c_16)
  refine lv_iload hx hb dL_law_306 (lv_at hl 1 rfl) ?_
  refine lv_if_ne (tgt := 323) hx hb dL_law_308 (by decide) (fun c_17 => ?_) (fun c_17 => ?_)
  rotate_left
  · (first | exact absurd c_17 (by decide) | exact absurd (by decide) c_17)
  refine lv_goto (tgt := 1806) hx hb dL_law_323 (by decide) ?_
  refine lv_iinc (v := 7) (lv' := [(5, .int 7), (7, .int 0), (6, .int 1), (4, .ref qd), (3, .ref qo), (2, .ref m0), (1, .ref x0), (0, .ref b)]) hx hb dL_law_1806 hl (k := 2) rfl (by decide) (by decide) rfl (fun ls hl => ?_)
  refine lv_goto (tgt := 28) hx hb dL_law_1809 (by decide) ?_
  refine lv_iload hx hb dL_law_28 (lv_at hl 0 rfl) ?_
  refine lv_aload_n hx hb dL_law_30 rfl (lv_at hl 7 rfl) ?_
  refine va_slen hx hb hX hbl hbA hS dL_law_31 ?_
  refine lv_topi (fun x_18 ex_18 => ?_)
  obtain rfl : x_18 = 7 := ex_18.trans (by decide)
  refine lv_bipush (v := 7) hx hb dL_law_32 (by decide) ?_
  refine lv_isub hx hb dL_law_34 ?_
  refine lv_topi (fun x_19 ex_19 => ?_)
  obtain rfl : x_19 = 0 := ex_19.trans (by decide)
  refine lv_icmp_gt (tgt := 1812) hx hb dL_law_35 (by decide) (fun c_20 => ?_) (fun c_20 => ?_)
  rotate_left
  · (first | exact absurd c_20 (by decide) | exact absurd (by decide) c_20)
  refine lv_iconst (v := 1) hx hb dL_law_1812 (by decide) ?_
  refine va_forget (fun q hq => hA2 _ (hS.2.2 q hq)) ?_
  refine W.widen (k := room_1.cells) (n := room_1.slots) (Nat.le_of_ble_eq_true rfl) (Nat.le_of_ble_eq_true rfl) ?_
  exact lw_ret0 hx hb hr hlocks dL_law_1813

set_option maxHeartbeats 4000000 in
set_option maxRecDepth 100000 in
/-- the law, case 2 -/
theorem law_2 {p : Program} {l : Launch} (hnt : l.stackTraces = false) {e : Env} {s : State} {m : MethodId} {below : List Frame} {meth : Method} {c : Code} {dC : Nat → ClassId} {dI : Nat → Nat → Nat} {a0 b : Nat} {xs : Nat → Int32} (C0 : lw_At p s m meth c b 7 xs) {A : Nat → Prop} (hA : ∀ q : Nat, s.heap.size ≤ q → A q) (hA2 : ∀ q : Nat, A q → s.heap.size ≤ q) (hZ : zB a0 A s s.heap) {x0 : Nat} {qm : Nat} {qt : Nat} {qw : Nat} {qc : Nat} {qb : Nat} {qg : Nat} {m0 : Nat} {l1 : Nat} {l2 : Nat} {qo : Nat} {qd : Nat} {cM : ClassId} {cT : ClassId} {cL : ClassId} {cD : ClassId} {H : Heap} {locs : List Loc} (hK : va_K (dC, dI) vwCl [(cM, .object "Haltingale$Machine"), (cT, .object "Haltingale$Tag"), (cL, .long), (cD, .double)] s) (hP : va_P (dC, dI) vwCl [(x0, .inr (9, [.ref qm, .ref qt, .ref qw, .ref qc, .ref qb, .ref qg, .int 0, .int 0, .int 0, .int 0, .int 0])), (qm, .inl (cM, 12, .inr (.inr (.inr (.inr (fun _ => none)))))), (qt, .inl (cT, 4, .inr (.inr (.inr (.inr (fun _ => none)))))), (m0, .inr (12, [.int 0, .ref l1, .ref l2, .int 0, .int 0, .int 0, .long 0])), (l1, .inr (1, [.int 0, .ref a0, .int 0])), (l2, .inr (1, [.int 0, .ref a0, .int 0])), (qo, .inl (cL, 1, .inr (.inl (fun _ => 0)))), (qd, .inl (cD, 1, .inr (.inr (.inr (.inl (fun _ => 0))))))] H) (hD : va_D A [(x0, .inr (9, [.ref qm, .ref qt, .ref qw, .ref qc, .ref qb, .ref qg, .int 0, .int 0, .int 0, .int 0, .int 0])), (qm, .inl (cM, 12, .inr (.inr (.inr (.inr (fun _ => none)))))), (qt, .inl (cT, 4, .inr (.inr (.inr (.inr (fun _ => none)))))), (m0, .inr (12, [.int 0, .ref l1, .ref l2, .int 0, .int 0, .int 0, .long 0])), (l1, .inr (1, [.int 0, .ref a0, .int 0])), (l2, .inr (1, [.int 0, .ref a0, .int 0])), (qo, .inl (cL, 1, .inr (.inl (fun _ => 0)))), (qd, .inl (cD, 1, .inr (.inr (.inr (.inl (fun _ => 0))))))]) (hS : va_S A s.heap H locs) {ls : Array Slot} (hl : lv_has ls 10 [(5, .int 0), (4, .ref qd), (3, .ref qo), (2, .ref m0), (1, .ref x0), (0, .ref b)])  : W p l e room_1 s m #[Value.ref b] below meth c H locs 31 4324 (lw_Z below #[Value.ref b] s) (F0 m 326 ls []) := by
  obtain ⟨hx, hb, hr, hml, hown, hts0, hX, hbl, hlocks, hgv⟩ := C0
  have hts : ∀ w ∈ zs_law, w.before #[Value.ref b] s = true := fun w h => hts0 w (zs_law_in w h)
  have hbA : ¬ A b := fun h => absurd (hA2 b h) (Nat.not_le.mpr hbl)
  refine lv_aload_n hx hb dL_law_326 rfl (lv_at hl 4 rfl) ?_
  refine lv_aload_n hx hb dL_law_327 rfl (lv_at hl 5 rfl) ?_
  refine lv_iload hx hb dL_law_328 (lv_at hl 0 rfl) ?_
  refine lv_iconst (v := 1) hx hb dL_law_330 (by decide) ?_
  refine lv_iadd hx hb dL_law_331 ?_
  refine lv_topi (fun x_1 ex_1 => ?_)
  obtain rfl : x_1 = 1 := ex_1.trans (by decide)
  refine va_sld hx hb hX hbl hbA hS (by unfold vp_in; decide) dL_law_332 ?_
  refine lv_aload_n hx hb dL_law_333 rfl (lv_at hl 5 rfl) ?_
  refine lv_iload hx hb dL_law_334 (lv_at hl 0 rfl) ?_
  refine lv_iconst (v := 2) hx hb dL_law_336 (by decide) ?_
  refine lv_iadd hx hb dL_law_337 ?_
  refine lv_topi (fun x_2 ex_2 => ?_)
  obtain rfl : x_2 = 2 := ex_2.trans (by decide)
  refine va_sld hx hb hX hbl hbA hS (by unfold vp_in; decide) dL_law_338 ?_
  refine lv_aload_n hx hb dL_law_339 rfl (lv_at hl 5 rfl) ?_
  refine lv_iload hx hb dL_law_340 (lv_at hl 0 rfl) ?_
  refine lv_iconst (v := 3) hx hb dL_law_342 (by decide) ?_
  refine lv_iadd hx hb dL_law_343 ?_
  refine lv_topi (fun x_3 ex_3 => ?_)
  obtain rfl : x_3 = 3 := ex_3.trans (by decide)
  refine va_sld hx hb hX hbl hbA hS (by unfold vp_in; decide) dL_law_344 ?_
  refine lv_aload_n hx hb dL_law_345 rfl (lv_at hl 5 rfl) ?_
  refine lv_iload hx hb dL_law_346 (lv_at hl 0 rfl) ?_
  refine lv_iconst (v := 4) hx hb dL_law_348 (by decide) ?_
  refine lv_iadd hx hb dL_law_349 ?_
  refine lv_topi (fun x_4 ex_4 => ?_)
  obtain rfl : x_4 = 4 := ex_4.trans (by decide)
  refine va_sld hx hb hX hbl hbA hS (by unfold vp_in; decide) dL_law_350 ?_
  refine lv_aload_n hx hb dL_law_351 rfl (lv_at hl 5 rfl) ?_
  refine lv_iload hx hb dL_law_352 (lv_at hl 0 rfl) ?_
  refine lv_iconst (v := 5) hx hb dL_law_354 (by decide) ?_
  refine lv_iadd hx hb dL_law_355 ?_
  refine lv_topi (fun x_5 ex_5 => ?_)
  obtain rfl : x_5 = 5 := ex_5.trans (by decide)
  refine va_sld hx hb hX hbl hbA hS (by unfold vp_in; decide) dL_law_356 ?_
  refine lv_aload_n hx hb dL_law_357 rfl (lv_at hl 5 rfl) ?_
  refine lv_iload hx hb dL_law_358 (lv_at hl 0 rfl) ?_
  refine lv_bipush (v := 6) hx hb dL_law_360 (by decide) ?_
  refine lv_iadd hx hb dL_law_362 ?_
  refine lv_topi (fun x_6 ex_6 => ?_)
  obtain rfl : x_6 = 6 := ex_6.trans (by decide)
  refine va_sld hx hb hX hbl hbA hS (by unfold vp_in; decide) dL_law_363 ?_
  refine lv_aload_n hx hb dL_law_364 rfl (lv_at hl 2 rfl) ?_
  have hPc := hP.sub (ws' := [(x0, .inr (9, [.ref qm, .ref qt, .ref qw, .ref qc, .ref qb, .ref qg, .int 0, .int 0, .int 0, .int 0, .int 0])), (qo, .inl (cL, 1, .inr (.inl (fun _ => 0))))]) [0, 6] rfl
  have hDc := hD.sub (ws' := [(x0, .inr (9, [.ref qm, .ref qt, .ref qw, .ref qc, .ref qb, .ref qg, .int 0, .int 0, .int 0, .int 0, .int 0])), (qo, .inl (cL, 1, .inr (.inl (fun _ => 0))))]) [0, 6] (by decide) rfl
  have hKc := hK.sub (tys' := [(cL, .long)]) [2] rfl
  have hFc := va_free (wc := [(x0, .inr (9, [.ref qm, .ref qt, .ref qw, .ref qc, .ref qb, .ref qg, .int 0, .int 0, .int 0, .int 0, .int 0])), (qo, .inl (cL, 1, .inr (.inl (fun _ => 0))))]) hD hS hA [0, 6] rfl
  have hZc := ((hZ.kept hS.2.1).narrow hFc)
  refine va_calli (vx_runSW (As := [.ref x0, .int (xs ((1 : Int32).toNatClampNeg)), .int (xs ((2 : Int32).toNatClampNeg)), .int (xs ((3 : Int32).toNatClampNeg)), .int (xs ((4 : Int32).toNatClampNeg)), .int (xs ((5 : Int32).toNatClampNeg)), .int (xs ((6 : Int32).toNatClampNeg)), .ref qo]) (rest := []) ⟨hx, hb, hml, hown, hts⟩ (c_L_amend l hnt dC dI a0 x0 qm qt qw qc qb qg qo cL ((xs ((1 : Int32).toNatClampNeg))) ((xs ((2 : Int32).toNatClampNeg))) ((xs ((3 : Int32).toNatClampNeg))) ((xs ((4 : Int32).toNatClampNeg))) ((xs ((5 : Int32).toNatClampNeg))) ((xs ((6 : Int32).toNatClampNeg))) H.size ) (vx_cwSW 8 hts (goodIn_of _ (by decide +kernel)) rfl rfl rfl (by decide +kernel) ⟨Nat.le_of_ble_eq_true rfl, Nat.le_of_ble_eq_true rfl⟩) ⟨fun a U g mk q => by obtain ⟨q0, q1, qP, qK, qD, qZ⟩ := q; exact ⟨q0, q1, qP, va_K.moved (u := U) (U := U.calling g mk a) (Vm.Alike.refl U.vm) qK, qD, qZ.call⟩, fun U hU hW => ⟨rfl, by rw [hU], by rw [hU]; exact hPc, va_K.moved hW.alike hKc, hDc.weaken (fun _ _ _ _ => trivial), by rw [hU]; exact hZc.warm hW⟩⟩ rfl rfl hl.1 rfl (lv_room (Nat.le_of_ble_eq_true rfl)) dL_law_365 ⟨Nat.le_of_ble_eq_true rfl, Nat.le_of_ble_eq_true rfl⟩) hS (fun q _ h => hFc q h) hFc (fun r_7 u t H1 locs ht hvm hw hB hz1 hk1 hS => ?_)
  obtain ⟨hP1, hK1, hD1⟩ := hB
  rw [ht] at hP1
  have hK1 := va_K.moved hvm.symm hK1
  obtain ⟨hP, hD⟩ := va_join (wr := [(qm, .inl (cM, 12, .inr (.inr (.inr (.inr (fun _ => none)))))), (qt, .inl (cT, 4, .inr (.inr (.inr (.inr (fun _ => none)))))), (m0, .inr (12, [.int 0, .ref l1, .ref l2, .int 0, .int 0, .int 0, .long 0])), (l1, .inr (1, [.int 0, .ref a0, .int 0])), (l2, .inr (1, [.int 0, .ref a0, .int 0])), (qd, .inl (cD, 1, .inr (.inr (.inr (.inl (fun _ => 0))))))]) (w1 := []) hP hD [0, 6] [1, 2, 3, 4, 5, 7] rfl rfl (by decide) (by decide) hk1 hFc hP1 hD1
  have hK := (hK.sub (tys' := [(cM, .object "Haltingale$Machine"), (cT, .object "Haltingale$Tag"), (cL, .long), (cD, .double)]) [0, 1, 2, 3] rfl).app hK1
  generalize H1 = H at hP hS ⊢
  have hP : va_P (dC, dI) vwCl [(qm, .inl (cM, 12, .inr (.inr (.inr (.inr (fun _ => none)))))), (qt, .inl (cT, 4, .inr (.inr (.inr (.inr (fun _ => none)))))), (m0, .inr (12, [.int 0, .ref l1, .ref l2, .int 0, .int 0, .int 0, .long 0])), (l1, .inr (1, [.int 0, .ref a0, .int 0])), (l2, .inr (1, [.int 0, .ref a0, .int 0])), (qd, .inl (cD, 1, .inr (.inr (.inr (.inl (fun _ => 0))))))] H := hP
  have hD : va_D A [(qm, .inl (cM, 12, .inr (.inr (.inr (.inr (fun _ => none)))))), (qt, .inl (cT, 4, .inr (.inr (.inr (.inr (fun _ => none)))))), (m0, .inr (12, [.int 0, .ref l1, .ref l2, .int 0, .int 0, .int 0, .long 0])), (l1, .inr (1, [.int 0, .ref a0, .int 0])), (l2, .inr (1, [.int 0, .ref a0, .int 0])), (qd, .inl (cD, 1, .inr (.inr (.inr (.inl (fun _ => 0))))))] := hD
  have hK : va_K (dC, dI) vwCl [(cM, .object "Haltingale$Machine"), (cT, .object "Haltingale$Tag"), (cL, .long), (cD, .double)] s := hK
  refine W.widen (k := 32) (n := 4330) (Nat.le_of_ble_eq_true rfl) (Nat.le_of_ble_eq_true rfl) ?_
  obtain rfl : r_7 = 1 := hw
  refine lv_istore (lv' := [(6, .int 1), (5, .int 0), (4, .ref qd), (3, .ref qo), (2, .ref m0), (1, .ref x0), (0, .ref b)]) hx hb dL_law_368 hl (by decide) rfl (fun ls hl => ?_)
  refine lv_aload_n hx hb dL_law_370 rfl (lv_at hl 4 rfl) ?_
  refine lv_aload_n hx hb dL_law_371 rfl (lv_at hl 6 rfl) ?_
  refine lv_iload hx hb dL_law_372 (lv_at hl 1 rfl) ?_
  refine lv_iconst (v := 1) hx hb dL_law_374 (by decide) ?_
  refine lv_iadd hx hb dL_law_375 ?_
  refine lv_topi (fun x_8 ex_8 => ?_)
  obtain rfl : x_8 = 1 := ex_8.trans (by decide)
  refine va_sld hx hb hX hbl hbA hS (by unfold vp_in; decide) dL_law_376 ?_
  refine lv_aload_n hx hb dL_law_377 rfl (lv_at hl 6 rfl) ?_
  refine lv_iload hx hb dL_law_378 (lv_at hl 1 rfl) ?_
  refine lv_iconst (v := 2) hx hb dL_law_380 (by decide) ?_
  refine lv_iadd hx hb dL_law_381 ?_
  refine lv_topi (fun x_9 ex_9 => ?_)
  obtain rfl : x_9 = 2 := ex_9.trans (by decide)
  refine va_sld hx hb hX hbl hbA hS (by unfold vp_in; decide) dL_law_382 ?_
  refine lv_aload_n hx hb dL_law_383 rfl (lv_at hl 6 rfl) ?_
  refine lv_iload hx hb dL_law_384 (lv_at hl 1 rfl) ?_
  refine lv_iconst (v := 3) hx hb dL_law_386 (by decide) ?_
  refine lv_iadd hx hb dL_law_387 ?_
  refine lv_topi (fun x_10 ex_10 => ?_)
  obtain rfl : x_10 = 3 := ex_10.trans (by decide)
  refine va_sld hx hb hX hbl hbA hS (by unfold vp_in; decide) dL_law_388 ?_
  refine lv_aload_n hx hb dL_law_389 rfl (lv_at hl 6 rfl) ?_
  refine lv_iload hx hb dL_law_390 (lv_at hl 1 rfl) ?_
  refine lv_iconst (v := 4) hx hb dL_law_392 (by decide) ?_
  refine lv_iadd hx hb dL_law_393 ?_
  refine lv_topi (fun x_11 ex_11 => ?_)
  obtain rfl : x_11 = 4 := ex_11.trans (by decide)
  refine va_sld hx hb hX hbl hbA hS (by unfold vp_in; decide) dL_law_394 ?_
  refine lv_aload_n hx hb dL_law_395 rfl (lv_at hl 6 rfl) ?_
  refine lv_iload hx hb dL_law_396 (lv_at hl 1 rfl) ?_
  refine lv_iconst (v := 5) hx hb dL_law_398 (by decide) ?_
  refine lv_iadd hx hb dL_law_399 ?_
  refine lv_topi (fun x_12 ex_12 => ?_)
  obtain rfl : x_12 = 5 := ex_12.trans (by decide)
  refine va_sld hx hb hX hbl hbA hS (by unfold vp_in; decide) dL_law_400 ?_
  refine lv_aload_n hx hb dL_law_401 rfl (lv_at hl 6 rfl) ?_
  refine lv_iload hx hb dL_law_402 (lv_at hl 1 rfl) ?_
  refine lv_bipush (v := 6) hx hb dL_law_404 (by decide) ?_
  refine lv_iadd hx hb dL_law_406 ?_
  refine lv_topi (fun x_13 ex_13 => ?_)
  obtain rfl : x_13 = 6 := ex_13.trans (by decide)
  refine va_sld hx hb hX hbl hbA hS (by unfold vp_in; decide) dL_law_407 ?_
  have hPc := hP.sub (ws' := [(m0, .inr (12, [.int 0, .ref l1, .ref l2, .int 0, .int 0, .int 0, .long 0])), (l1, .inr (1, [.int 0, .ref a0, .int 0]))]) [2, 3] rfl
  have hDc := hD.sub (ws' := [(m0, .inr (12, [.int 0, .ref l1, .ref l2, .int 0, .int 0, .int 0, .long 0])), (l1, .inr (1, [.int 0, .ref a0, .int 0]))]) [2, 3] (by decide) rfl
  have hKc := hK.sub (tys' := []) [] rfl
  have hFc := va_free (wc := [(m0, .inr (12, [.int 0, .ref l1, .ref l2, .int 0, .int 0, .int 0, .long 0])), (l1, .inr (1, [.int 0, .ref a0, .int 0]))]) hD hS hA [2, 3] rfl
  have hZc := ((hZ.kept hS.2.1).narrow hFc)
  refine va_calli (va_runV (As := [.int (xs ((1 : Int32).toNatClampNeg)), .int (xs ((2 : Int32).toNatClampNeg)), .int (xs ((3 : Int32).toNatClampNeg)), .int (xs ((4 : Int32).toNatClampNeg)), .int (xs ((5 : Int32).toNatClampNeg)), .int (xs ((6 : Int32).toNatClampNeg))]) (rest := []) ⟨hx, hb, hml, hown, hts⟩ (c_X10_amend l hnt dC dI a0 m0 l1 l2 ((xs ((1 : Int32).toNatClampNeg))) ((xs ((2 : Int32).toNatClampNeg))) ((xs ((3 : Int32).toNatClampNeg))) ((xs ((4 : Int32).toNatClampNeg))) ((xs ((5 : Int32).toNatClampNeg))) ((xs ((6 : Int32).toNatClampNeg))) H.size ) (cwV 6 hts (goodIn_of _ (by decide +kernel)) rfl rfl rfl (by decide +kernel) ⟨Nat.le_of_ble_eq_true rfl, Nat.le_of_ble_eq_true rfl⟩) ⟨fun a U g mk q => by obtain ⟨q0, q1, qP, qK, qD, qZ⟩ := q; exact ⟨q0, q1, qP, va_K.moved (u := U) (U := U.calling g mk a) (Vm.Alike.refl U.vm) qK, qD, qZ.call⟩, va_recv hKc hPc (ci := 12) (q0 := 0) rfl rfl, fun U hU hW => ⟨rfl, by rw [hU], by rw [hU]; exact hPc, va_K.moved hW.alike hKc, hDc.weaken (fun _ _ _ _ => trivial), by rw [hU]; exact hZc.warm hW⟩⟩ rfl rfl hl.1 rfl (lv_room (Nat.le_of_ble_eq_true rfl)) dL_law_408 ⟨Nat.le_of_ble_eq_true rfl, Nat.le_of_ble_eq_true rfl⟩) hS (fun q _ h => hFc q h) hFc (fun r_14 u t H1 locs ht hvm hw hB hz1 hk1 hS => ?_)
  obtain ⟨hP1, hK1, hD1⟩ := hB
  rw [ht] at hP1
  have hK1 := va_K.moved hvm.symm hK1
  obtain ⟨hP, hD⟩ := va_join (wr := [(qm, .inl (cM, 12, .inr (.inr (.inr (.inr (fun _ => none)))))), (qt, .inl (cT, 4, .inr (.inr (.inr (.inr (fun _ => none)))))), (l2, .inr (1, [.int 0, .ref a0, .int 0])), (qd, .inl (cD, 1, .inr (.inr (.inr (.inl (fun _ => 0))))))]) (w1 := [(m0, .inr (12, [.int 1, .ref l1, .ref l2, .int 0, .int 0, .int 0, .long 0]))]) hP hD [2, 3] [0, 1, 4, 5] rfl rfl (by decide) (by decide) hk1 hFc hP1 hD1
  have hK := (hK.sub (tys' := [(cM, .object "Haltingale$Machine"), (cT, .object "Haltingale$Tag"), (cL, .long), (cD, .double)]) [0, 1, 2, 3] rfl).app hK1
  generalize H1 = H at hP hS ⊢
  have hP : va_P (dC, dI) vwCl [(qm, .inl (cM, 12, .inr (.inr (.inr (.inr (fun _ => none)))))), (qt, .inl (cT, 4, .inr (.inr (.inr (.inr (fun _ => none)))))), (l2, .inr (1, [.int 0, .ref a0, .int 0])), (qd, .inl (cD, 1, .inr (.inr (.inr (.inl (fun _ => 0)))))), (m0, .inr (12, [.int 1, .ref l1, .ref l2, .int 0, .int 0, .int 0, .long 0]))] H := hP
  have hD : va_D A [(qm, .inl (cM, 12, .inr (.inr (.inr (.inr (fun _ => none)))))), (qt, .inl (cT, 4, .inr (.inr (.inr (.inr (fun _ => none)))))), (l2, .inr (1, [.int 0, .ref a0, .int 0])), (qd, .inl (cD, 1, .inr (.inr (.inr (.inl (fun _ => 0)))))), (m0, .inr (12, [.int 1, .ref l1, .ref l2, .int 0, .int 0, .int 0, .long 0]))] := hD
  have hK : va_K (dC, dI) vwCl [(cM, .object "Haltingale$Machine"), (cT, .object "Haltingale$Tag"), (cL, .long), (cD, .double)] s := hK
  refine W.widen (k := 32) (n := 4330) (Nat.le_of_ble_eq_true rfl) (Nat.le_of_ble_eq_true rfl) ?_
  obtain rfl : r_14 = 0 := hw
  refine lv_istore (lv' := [(7, .int 0), (6, .int 1), (5, .int 0), (4, .ref qd), (3, .ref qo), (2, .ref m0), (1, .ref x0), (0, .ref b)]) hx hb dL_law_411 hl (by decide) rfl (fun ls hl => ?_)
  refine lv_aload_n hx hb dL_law_413 rfl (lv_at hl 5 rfl) ?_
  have hPc := hP.sub (ws' := [(m0, .inr (12, [.int 1, .ref l1, .ref l2, .int 0, .int 0, .int 0, .long 0]))]) [4] rfl
  have hDc := hD.sub (ws' := [(m0, .inr (12, [.int 1, .ref l1, .ref l2, .int 0, .int 0, .int 0, .long 0]))]) [4] (by decide) rfl
  have hKc := hK.sub (tys' := []) [] rfl
  have hFc := va_free (wc := [(m0, .inr (12, [.int 1, .ref l1, .ref l2, .int 0, .int 0, .int 0, .long 0]))]) hD hS hA [4] rfl
  have hZc := ((hZ.kept hS.2.1).narrow hFc)
  refine va_calli (va_runV (As := []) (rest := []) ⟨hx, hb, hml, hown, hts⟩ (c_X10_thrown l hnt dC dI a0 m0 l1 l2 1 H.size ) (cwV 0 hts (goodIn_of _ (by decide +kernel)) rfl rfl rfl (by decide +kernel) ⟨Nat.le_of_ble_eq_true rfl, Nat.le_of_ble_eq_true rfl⟩) ⟨fun a U g mk q => by obtain ⟨q0, q1, qP, qK, qD, qZ⟩ := q; exact ⟨q0, q1, qP, va_K.moved (u := U) (U := U.calling g mk a) (Vm.Alike.refl U.vm) qK, qD, qZ.call⟩, va_recv hKc hPc (ci := 12) (q0 := 0) rfl rfl, fun U hU hW => ⟨rfl, by rw [hU], by rw [hU]; exact hPc, va_K.moved hW.alike hKc, hDc.weaken (fun _ _ _ _ => trivial), by rw [hU]; exact hZc.warm hW⟩⟩ rfl rfl hl.1 rfl (lv_room (Nat.le_of_ble_eq_true rfl)) dL_law_414 ⟨Nat.le_of_ble_eq_true rfl, Nat.le_of_ble_eq_true rfl⟩) hS (fun q _ h => hFc q h) hFc (fun r_15 u t H1 locs ht hvm hw hB hz1 hk1 hS => ?_)
  obtain ⟨hP1, hK1, hD1⟩ := hB
  rw [ht] at hP1
  have hK1 := va_K.moved hvm.symm hK1
  obtain ⟨hP, hD⟩ := va_join (wr := [(qm, .inl (cM, 12, .inr (.inr (.inr (.inr (fun _ => none)))))), (qt, .inl (cT, 4, .inr (.inr (.inr (.inr (fun _ => none)))))), (l2, .inr (1, [.int 0, .ref a0, .int 0])), (qd, .inl (cD, 1, .inr (.inr (.inr (.inl (fun _ => 0))))))]) (w1 := []) hP hD [4] [0, 1, 2, 3] rfl rfl (by decide) (by decide) hk1 hFc hP1 hD1
  have hK := (hK.sub (tys' := [(cM, .object "Haltingale$Machine"), (cT, .object "Haltingale$Tag"), (cL, .long), (cD, .double)]) [0, 1, 2, 3] rfl).app hK1
  generalize H1 = H at hP hS ⊢
  have hP : va_P (dC, dI) vwCl [(qm, .inl (cM, 12, .inr (.inr (.inr (.inr (fun _ => none)))))), (qt, .inl (cT, 4, .inr (.inr (.inr (.inr (fun _ => none)))))), (l2, .inr (1, [.int 0, .ref a0, .int 0])), (qd, .inl (cD, 1, .inr (.inr (.inr (.inl (fun _ => 0))))))] H := hP
  have hD : va_D A [(qm, .inl (cM, 12, .inr (.inr (.inr (.inr (fun _ => none)))))), (qt, .inl (cT, 4, .inr (.inr (.inr (.inr (fun _ => none)))))), (l2, .inr (1, [.int 0, .ref a0, .int 0])), (qd, .inl (cD, 1, .inr (.inr (.inr (.inl (fun _ => 0))))))] := hD
  have hK : va_K (dC, dI) vwCl [(cM, .object "Haltingale$Machine"), (cT, .object "Haltingale$Tag"), (cL, .long), (cD, .double)] s := hK
  refine W.widen (k := 32) (n := 4330) (Nat.le_of_ble_eq_true rfl) (Nat.le_of_ble_eq_true rfl) ?_
  obtain rfl : r_15 = 1 := hw
  refine lv_iload hx hb dL_law_417 (lv_at hl 1 rfl) ?_
  refine lv_icmp_eq (tgt := 424) hx hb dL_law_419 (by decide) (fun c_16 => ?_) (fun c_16 => ?_)
  rotate_left
  · (first | exact absurd c_16 (by decide) | exact absurd (by decide) c_16)
  refine lv_iload hx hb dL_law_424 (lv_at hl 1 rfl) ?_
  refine lv_if_ne (tgt := 448) hx hb dL_law_426 (by decide) (fun c_17 => ?_) (fun c_17 => ?_)
  rotate_left
  · (first | exact absurd c_17 (by decide) | exact absurd (by decide) c_17)
  refine lv_goto (tgt := 1806) hx hb dL_law_448 (by decide) ?_
  refine lv_iinc (v := 7) (lv' := [(5, .int 7), (7, .int 0), (6, .int 1), (4, .ref qd), (3, .ref qo), (2, .ref m0), (1, .ref x0), (0, .ref b)]) hx hb dL_law_1806 hl (k := 2) rfl (by decide) (by decide) rfl (fun ls hl => ?_)
  refine lv_goto (tgt := 28) hx hb dL_law_1809 (by decide) ?_
  refine lv_iload hx hb dL_law_28 (lv_at hl 0 rfl) ?_
  refine lv_aload_n hx hb dL_law_30 rfl (lv_at hl 7 rfl) ?_
  refine va_slen hx hb hX hbl hbA hS dL_law_31 ?_
  refine lv_topi (fun x_18 ex_18 => ?_)
  obtain rfl : x_18 = 7 := ex_18.trans (by decide)
  refine lv_bipush (v := 7) hx hb dL_law_32 (by decide) ?_
  refine lv_isub hx hb dL_law_34 ?_
  refine lv_topi (fun x_19 ex_19 => ?_)
  obtain rfl : x_19 = 0 := ex_19.trans (by decide)
  refine lv_icmp_gt (tgt := 1812) hx hb dL_law_35 (by decide) (fun c_20 => ?_) (fun c_20 => ?_)
  rotate_left
  · (first | exact absurd c_20 (by decide) | exact absurd (by decide) c_20)
  refine lv_iconst (v := 1) hx hb dL_law_1812 (by decide) ?_
  refine va_forget (fun q hq => hA2 _ (hS.2.2 q hq)) ?_
  refine W.widen (k := room_1.cells) (n := room_1.slots) (Nat.le_of_ble_eq_true rfl) (Nat.le_of_ble_eq_true rfl) ?_
  exact lw_ret0 hx hb hr hlocks dL_law_1813

set_option maxHeartbeats 4000000 in
set_option maxRecDepth 100000 in
/-- the law, case 3 -/
theorem law_3 {p : Program} {l : Launch} (hnt : l.stackTraces = false) {e : Env} {s : State} {m : MethodId} {below : List Frame} {meth : Method} {c : Code} {dC : Nat → ClassId} {dI : Nat → Nat → Nat} {a0 b : Nat} {xs : Nat → Int32} (C0 : lw_At p s m meth c b 7 xs) {A : Nat → Prop} (hA : ∀ q : Nat, s.heap.size ≤ q → A q) (hA2 : ∀ q : Nat, A q → s.heap.size ≤ q) (hZ : zB a0 A s s.heap) {x0 : Nat} {qm : Nat} {qt : Nat} {qw : Nat} {qc : Nat} {qb : Nat} {qg : Nat} {m0 : Nat} {l1 : Nat} {l2 : Nat} {qo : Nat} {qd : Nat} {cM : ClassId} {cT : ClassId} {cL : ClassId} {cD : ClassId} {H : Heap} {locs : List Loc} (hK : va_K (dC, dI) vwCl [(cM, .object "Haltingale$Machine"), (cT, .object "Haltingale$Tag"), (cL, .long), (cD, .double)] s) (hP : va_P (dC, dI) vwCl [(x0, .inr (9, [.ref qm, .ref qt, .ref qw, .ref qc, .ref qb, .ref qg, .int 0, .int 0, .int 0, .int 0, .int 0])), (qm, .inl (cM, 12, .inr (.inr (.inr (.inr (fun _ => none)))))), (qt, .inl (cT, 4, .inr (.inr (.inr (.inr (fun _ => none)))))), (m0, .inr (12, [.int 0, .ref l1, .ref l2, .int 0, .int 0, .int 0, .long 0])), (l1, .inr (1, [.int 0, .ref a0, .int 0])), (l2, .inr (1, [.int 0, .ref a0, .int 0])), (qo, .inl (cL, 1, .inr (.inl (fun _ => 0)))), (qd, .inl (cD, 1, .inr (.inr (.inr (.inl (fun _ => 0))))))] H) (hD : va_D A [(x0, .inr (9, [.ref qm, .ref qt, .ref qw, .ref qc, .ref qb, .ref qg, .int 0, .int 0, .int 0, .int 0, .int 0])), (qm, .inl (cM, 12, .inr (.inr (.inr (.inr (fun _ => none)))))), (qt, .inl (cT, 4, .inr (.inr (.inr (.inr (fun _ => none)))))), (m0, .inr (12, [.int 0, .ref l1, .ref l2, .int 0, .int 0, .int 0, .long 0])), (l1, .inr (1, [.int 0, .ref a0, .int 0])), (l2, .inr (1, [.int 0, .ref a0, .int 0])), (qo, .inl (cL, 1, .inr (.inl (fun _ => 0)))), (qd, .inl (cD, 1, .inr (.inr (.inr (.inl (fun _ => 0))))))]) (hS : va_S A s.heap H locs) {ls : Array Slot} (hl : lv_has ls 10 [(5, .int 0), (4, .ref qd), (3, .ref qo), (2, .ref m0), (1, .ref x0), (0, .ref b)])  : W p l e room_1 s m #[Value.ref b] below meth c H locs 31 4324 (lw_Z below #[Value.ref b] s) (F0 m 451 ls []) := by
  obtain ⟨hx, hb, hr, hml, hown, hts0, hX, hbl, hlocks, hgv⟩ := C0
  have hts : ∀ w ∈ zs_law, w.before #[Value.ref b] s = true := fun w h => hts0 w (zs_law_in w h)
  have hbA : ¬ A b := fun h => absurd (hA2 b h) (Nat.not_le.mpr hbl)
  refine lv_aload_n hx hb dL_law_451 rfl (lv_at hl 4 rfl) ?_
  refine lv_aload_n hx hb dL_law_452 rfl (lv_at hl 5 rfl) ?_
  refine lv_iload hx hb dL_law_453 (lv_at hl 0 rfl) ?_
  refine lv_iconst (v := 1) hx hb dL_law_455 (by decide) ?_
  refine lv_iadd hx hb dL_law_456 ?_
  refine lv_topi (fun x_1 ex_1 => ?_)
  obtain rfl : x_1 = 1 := ex_1.trans (by decide)
  refine va_sld hx hb hX hbl hbA hS (by unfold vp_in; decide) dL_law_457 ?_
  refine lv_aload_n hx hb dL_law_458 rfl (lv_at hl 5 rfl) ?_
  refine lv_iload hx hb dL_law_459 (lv_at hl 0 rfl) ?_
  refine lv_iconst (v := 2) hx hb dL_law_461 (by decide) ?_
  refine lv_iadd hx hb dL_law_462 ?_
  refine lv_topi (fun x_2 ex_2 => ?_)
  obtain rfl : x_2 = 2 := ex_2.trans (by decide)
  refine va_sld hx hb hX hbl hbA hS (by unfold vp_in; decide) dL_law_463 ?_
  refine lv_aload_n hx hb dL_law_464 rfl (lv_at hl 2 rfl) ?_
  have hPc := hP.sub (ws' := [(x0, .inr (9, [.ref qm, .ref qt, .ref qw, .ref qc, .ref qb, .ref qg, .int 0, .int 0, .int 0, .int 0, .int 0])), (qo, .inl (cL, 1, .inr (.inl (fun _ => 0))))]) [0, 6] rfl
  have hDc := hD.sub (ws' := [(x0, .inr (9, [.ref qm, .ref qt, .ref qw, .ref qc, .ref qb, .ref qg, .int 0, .int 0, .int 0, .int 0, .int 0])), (qo, .inl (cL, 1, .inr (.inl (fun _ => 0))))]) [0, 6] (by decide) rfl
  have hKc := hK.sub (tys' := [(cL, .long)]) [2] rfl
  have hFc := va_free (wc := [(x0, .inr (9, [.ref qm, .ref qt, .ref qw, .ref qc, .ref qb, .ref qg, .int 0, .int 0, .int 0, .int 0, .int 0])), (qo, .inl (cL, 1, .inr (.inl (fun _ => 0))))]) hD hS hA [0, 6] rfl
  have hZc := ((hZ.kept hS.2.1).narrow hFc)
  refine va_calli (vx_runSW (As := [.ref x0, .int (xs ((1 : Int32).toNatClampNeg)), .int (xs ((2 : Int32).toNatClampNeg)), .ref qo]) (rest := []) ⟨hx, hb, hml, hown, hts⟩ (c_L_child l hnt dC dI a0 x0 qm qt qw qc qb qg qo cL ((xs ((1 : Int32).toNatClampNeg))) ((xs ((2 : Int32).toNatClampNeg))) H.size ) (vx_cwSW 4 hts (goodIn_of _ (by decide +kernel)) rfl rfl rfl (by decide +kernel) ⟨Nat.le_of_ble_eq_true rfl, Nat.le_of_ble_eq_true rfl⟩) ⟨fun a U g mk q => by obtain ⟨q0, q1, qP, qK, qD, qZ⟩ := q; exact ⟨q0, q1, qP, va_K.moved (u := U) (U := U.calling g mk a) (Vm.Alike.refl U.vm) qK, qD, qZ.call⟩, fun U hU hW => ⟨rfl, by rw [hU], by rw [hU]; exact hPc, va_K.moved hW.alike hKc, hDc.weaken (fun _ _ _ _ => trivial), by rw [hU]; exact hZc.warm hW⟩⟩ rfl rfl hl.1 rfl (lv_room (Nat.le_of_ble_eq_true rfl)) dL_law_465 ⟨Nat.le_of_ble_eq_true rfl, Nat.le_of_ble_eq_true rfl⟩) hS (fun q _ h => hFc q h) hFc (fun r_3 u t H1 locs ht hvm hw hB hz1 hk1 hS => ?_)
  obtain ⟨hP1, hK1, hD1⟩ := hB
  rw [ht] at hP1
  have hK1 := va_K.moved hvm.symm hK1
  obtain ⟨hP, hD⟩ := va_join (wr := [(qm, .inl (cM, 12, .inr (.inr (.inr (.inr (fun _ => none)))))), (qt, .inl (cT, 4, .inr (.inr (.inr (.inr (fun _ => none)))))), (m0, .inr (12, [.int 0, .ref l1, .ref l2, .int 0, .int 0, .int 0, .long 0])), (l1, .inr (1, [.int 0, .ref a0, .int 0])), (l2, .inr (1, [.int 0, .ref a0, .int 0])), (qd, .inl (cD, 1, .inr (.inr (.inr (.inl (fun _ => 0))))))]) (w1 := []) hP hD [0, 6] [1, 2, 3, 4, 5, 7] rfl rfl (by decide) (by decide) hk1 hFc hP1 hD1
  have hK := (hK.sub (tys' := [(cM, .object "Haltingale$Machine"), (cT, .object "Haltingale$Tag"), (cL, .long), (cD, .double)]) [0, 1, 2, 3] rfl).app hK1
  generalize H1 = H at hP hS ⊢
  have hP : va_P (dC, dI) vwCl [(qm, .inl (cM, 12, .inr (.inr (.inr (.inr (fun _ => none)))))), (qt, .inl (cT, 4, .inr (.inr (.inr (.inr (fun _ => none)))))), (m0, .inr (12, [.int 0, .ref l1, .ref l2, .int 0, .int 0, .int 0, .long 0])), (l1, .inr (1, [.int 0, .ref a0, .int 0])), (l2, .inr (1, [.int 0, .ref a0, .int 0])), (qd, .inl (cD, 1, .inr (.inr (.inr (.inl (fun _ => 0))))))] H := hP
  have hD : va_D A [(qm, .inl (cM, 12, .inr (.inr (.inr (.inr (fun _ => none)))))), (qt, .inl (cT, 4, .inr (.inr (.inr (.inr (fun _ => none)))))), (m0, .inr (12, [.int 0, .ref l1, .ref l2, .int 0, .int 0, .int 0, .long 0])), (l1, .inr (1, [.int 0, .ref a0, .int 0])), (l2, .inr (1, [.int 0, .ref a0, .int 0])), (qd, .inl (cD, 1, .inr (.inr (.inr (.inl (fun _ => 0))))))] := hD
  have hK : va_K (dC, dI) vwCl [(cM, .object "Haltingale$Machine"), (cT, .object "Haltingale$Tag"), (cL, .long), (cD, .double)] s := hK
  refine W.widen (k := 32) (n := 4330) (Nat.le_of_ble_eq_true rfl) (Nat.le_of_ble_eq_true rfl) ?_
  obtain rfl : r_3 = 1 := hw
  refine lv_istore (lv' := [(6, .int 1), (5, .int 0), (4, .ref qd), (3, .ref qo), (2, .ref m0), (1, .ref x0), (0, .ref b)]) hx hb dL_law_468 hl (by decide) rfl (fun ls hl => ?_)
  refine lv_aload_n hx hb dL_law_470 rfl (lv_at hl 4 rfl) ?_
  refine lv_aload_n hx hb dL_law_471 rfl (lv_at hl 6 rfl) ?_
  refine lv_iload hx hb dL_law_472 (lv_at hl 1 rfl) ?_
  refine lv_iconst (v := 1) hx hb dL_law_474 (by decide) ?_
  refine lv_iadd hx hb dL_law_475 ?_
  refine lv_topi (fun x_4 ex_4 => ?_)
  obtain rfl : x_4 = 1 := ex_4.trans (by decide)
  refine va_sld hx hb hX hbl hbA hS (by unfold vp_in; decide) dL_law_476 ?_
  refine lv_aload_n hx hb dL_law_477 rfl (lv_at hl 6 rfl) ?_
  refine lv_iload hx hb dL_law_478 (lv_at hl 1 rfl) ?_
  refine lv_iconst (v := 2) hx hb dL_law_480 (by decide) ?_
  refine lv_iadd hx hb dL_law_481 ?_
  refine lv_topi (fun x_5 ex_5 => ?_)
  obtain rfl : x_5 = 2 := ex_5.trans (by decide)
  refine va_sld hx hb hX hbl hbA hS (by unfold vp_in; decide) dL_law_482 ?_
  have hPc := hP.sub (ws' := [(m0, .inr (12, [.int 0, .ref l1, .ref l2, .int 0, .int 0, .int 0, .long 0])), (l1, .inr (1, [.int 0, .ref a0, .int 0]))]) [2, 3] rfl
  have hDc := hD.sub (ws' := [(m0, .inr (12, [.int 0, .ref l1, .ref l2, .int 0, .int 0, .int 0, .long 0])), (l1, .inr (1, [.int 0, .ref a0, .int 0]))]) [2, 3] (by decide) rfl
  have hKc := hK.sub (tys' := []) [] rfl
  have hFc := va_free (wc := [(m0, .inr (12, [.int 0, .ref l1, .ref l2, .int 0, .int 0, .int 0, .long 0])), (l1, .inr (1, [.int 0, .ref a0, .int 0]))]) hD hS hA [2, 3] rfl
  have hZc := ((hZ.kept hS.2.1).narrow hFc)
  refine va_calli (va_runV (As := [.int (xs ((1 : Int32).toNatClampNeg)), .int (xs ((2 : Int32).toNatClampNeg))]) (rest := []) ⟨hx, hb, hml, hown, hts⟩ (c_X10_child l hnt dC dI a0 m0 l1 l2 ((xs ((1 : Int32).toNatClampNeg))) ((xs ((2 : Int32).toNatClampNeg))) H.size ) (cwV 2 hts (goodIn_of _ (by decide +kernel)) rfl rfl rfl (by decide +kernel) ⟨Nat.le_of_ble_eq_true rfl, Nat.le_of_ble_eq_true rfl⟩) ⟨fun a U g mk q => by obtain ⟨q0, q1, qP, qK, qD, qZ⟩ := q; exact ⟨q0, q1, qP, va_K.moved (u := U) (U := U.calling g mk a) (Vm.Alike.refl U.vm) qK, qD, qZ.call⟩, va_recv hKc hPc (ci := 12) (q0 := 0) rfl rfl, fun U hU hW => ⟨rfl, by rw [hU], by rw [hU]; exact hPc, va_K.moved hW.alike hKc, hDc.weaken (fun _ _ _ _ => trivial), by rw [hU]; exact hZc.warm hW⟩⟩ rfl rfl hl.1 rfl (lv_room (Nat.le_of_ble_eq_true rfl)) dL_law_483 ⟨Nat.le_of_ble_eq_true rfl, Nat.le_of_ble_eq_true rfl⟩) hS (fun q _ h => hFc q h) hFc (fun r_6 u t H1 locs ht hvm hw hB hz1 hk1 hS => ?_)
  obtain ⟨hP1, hK1, hD1⟩ := hB
  rw [ht] at hP1
  have hK1 := va_K.moved hvm.symm hK1
  obtain ⟨hP, hD⟩ := va_join (wr := [(qm, .inl (cM, 12, .inr (.inr (.inr (.inr (fun _ => none)))))), (qt, .inl (cT, 4, .inr (.inr (.inr (.inr (fun _ => none)))))), (l2, .inr (1, [.int 0, .ref a0, .int 0])), (qd, .inl (cD, 1, .inr (.inr (.inr (.inl (fun _ => 0))))))]) (w1 := [(m0, .inr (12, [.int 1, .ref l1, .ref l2, .int 0, .int 0, .int 0, .long 0]))]) hP hD [2, 3] [0, 1, 4, 5] rfl rfl (by decide) (by decide) hk1 hFc hP1 hD1
  have hK := (hK.sub (tys' := [(cM, .object "Haltingale$Machine"), (cT, .object "Haltingale$Tag"), (cL, .long), (cD, .double)]) [0, 1, 2, 3] rfl).app hK1
  generalize H1 = H at hP hS ⊢
  have hP : va_P (dC, dI) vwCl [(qm, .inl (cM, 12, .inr (.inr (.inr (.inr (fun _ => none)))))), (qt, .inl (cT, 4, .inr (.inr (.inr (.inr (fun _ => none)))))), (l2, .inr (1, [.int 0, .ref a0, .int 0])), (qd, .inl (cD, 1, .inr (.inr (.inr (.inl (fun _ => 0)))))), (m0, .inr (12, [.int 1, .ref l1, .ref l2, .int 0, .int 0, .int 0, .long 0]))] H := hP
  have hD : va_D A [(qm, .inl (cM, 12, .inr (.inr (.inr (.inr (fun _ => none)))))), (qt, .inl (cT, 4, .inr (.inr (.inr (.inr (fun _ => none)))))), (l2, .inr (1, [.int 0, .ref a0, .int 0])), (qd, .inl (cD, 1, .inr (.inr (.inr (.inl (fun _ => 0)))))), (m0, .inr (12, [.int 1, .ref l1, .ref l2, .int 0, .int 0, .int 0, .long 0]))] := hD
  have hK : va_K (dC, dI) vwCl [(cM, .object "Haltingale$Machine"), (cT, .object "Haltingale$Tag"), (cL, .long), (cD, .double)] s := hK
  refine W.widen (k := 32) (n := 4330) (Nat.le_of_ble_eq_true rfl) (Nat.le_of_ble_eq_true rfl) ?_
  obtain rfl : r_6 = 0 := hw
  refine lv_istore (lv' := [(7, .int 0), (6, .int 1), (5, .int 0), (4, .ref qd), (3, .ref qo), (2, .ref m0), (1, .ref x0), (0, .ref b)]) hx hb dL_law_486 hl (by decide) rfl (fun ls hl => ?_)
  refine lv_aload_n hx hb dL_law_488 rfl (lv_at hl 5 rfl) ?_
  have hPc := hP.sub (ws' := [(m0, .inr (12, [.int 1, .ref l1, .ref l2, .int 0, .int 0, .int 0, .long 0]))]) [4] rfl
  have hDc := hD.sub (ws' := [(m0, .inr (12, [.int 1, .ref l1, .ref l2, .int 0, .int 0, .int 0, .long 0]))]) [4] (by decide) rfl
  have hKc := hK.sub (tys' := []) [] rfl
  have hFc := va_free (wc := [(m0, .inr (12, [.int 1, .ref l1, .ref l2, .int 0, .int 0, .int 0, .long 0]))]) hD hS hA [4] rfl
  have hZc := ((hZ.kept hS.2.1).narrow hFc)
  refine va_calli (va_runV (As := []) (rest := []) ⟨hx, hb, hml, hown, hts⟩ (c_X10_thrown l hnt dC dI a0 m0 l1 l2 1 H.size ) (cwV 0 hts (goodIn_of _ (by decide +kernel)) rfl rfl rfl (by decide +kernel) ⟨Nat.le_of_ble_eq_true rfl, Nat.le_of_ble_eq_true rfl⟩) ⟨fun a U g mk q => by obtain ⟨q0, q1, qP, qK, qD, qZ⟩ := q; exact ⟨q0, q1, qP, va_K.moved (u := U) (U := U.calling g mk a) (Vm.Alike.refl U.vm) qK, qD, qZ.call⟩, va_recv hKc hPc (ci := 12) (q0 := 0) rfl rfl, fun U hU hW => ⟨rfl, by rw [hU], by rw [hU]; exact hPc, va_K.moved hW.alike hKc, hDc.weaken (fun _ _ _ _ => trivial), by rw [hU]; exact hZc.warm hW⟩⟩ rfl rfl hl.1 rfl (lv_room (Nat.le_of_ble_eq_true rfl)) dL_law_489 ⟨Nat.le_of_ble_eq_true rfl, Nat.le_of_ble_eq_true rfl⟩) hS (fun q _ h => hFc q h) hFc (fun r_7 u t H1 locs ht hvm hw hB hz1 hk1 hS => ?_)
  obtain ⟨hP1, hK1, hD1⟩ := hB
  rw [ht] at hP1
  have hK1 := va_K.moved hvm.symm hK1
  obtain ⟨hP, hD⟩ := va_join (wr := [(qm, .inl (cM, 12, .inr (.inr (.inr (.inr (fun _ => none)))))), (qt, .inl (cT, 4, .inr (.inr (.inr (.inr (fun _ => none)))))), (l2, .inr (1, [.int 0, .ref a0, .int 0])), (qd, .inl (cD, 1, .inr (.inr (.inr (.inl (fun _ => 0))))))]) (w1 := []) hP hD [4] [0, 1, 2, 3] rfl rfl (by decide) (by decide) hk1 hFc hP1 hD1
  have hK := (hK.sub (tys' := [(cM, .object "Haltingale$Machine"), (cT, .object "Haltingale$Tag"), (cL, .long), (cD, .double)]) [0, 1, 2, 3] rfl).app hK1
  generalize H1 = H at hP hS ⊢
  have hP : va_P (dC, dI) vwCl [(qm, .inl (cM, 12, .inr (.inr (.inr (.inr (fun _ => none)))))), (qt, .inl (cT, 4, .inr (.inr (.inr (.inr (fun _ => none)))))), (l2, .inr (1, [.int 0, .ref a0, .int 0])), (qd, .inl (cD, 1, .inr (.inr (.inr (.inl (fun _ => 0))))))] H := hP
  have hD : va_D A [(qm, .inl (cM, 12, .inr (.inr (.inr (.inr (fun _ => none)))))), (qt, .inl (cT, 4, .inr (.inr (.inr (.inr (fun _ => none)))))), (l2, .inr (1, [.int 0, .ref a0, .int 0])), (qd, .inl (cD, 1, .inr (.inr (.inr (.inl (fun _ => 0))))))] := hD
  have hK : va_K (dC, dI) vwCl [(cM, .object "Haltingale$Machine"), (cT, .object "Haltingale$Tag"), (cL, .long), (cD, .double)] s := hK
  refine W.widen (k := 32) (n := 4330) (Nat.le_of_ble_eq_true rfl) (Nat.le_of_ble_eq_true rfl) ?_
  obtain rfl : r_7 = 1 := hw
  refine lv_iload hx hb dL_law_492 (lv_at hl 1 rfl) ?_
  refine lv_icmp_eq (tgt := 499) hx hb dL_law_494 (by decide) (fun c_8 => ?_) (fun c_8 => ?_)
  rotate_left
  · (first | exact absurd c_8 (by decide) | exact absurd (by decide) c_8)
  refine lv_iload hx hb dL_law_499 (lv_at hl 1 rfl) ?_
  refine lv_if_ne (tgt := 516) hx hb dL_law_501 (by decide) (fun c_9 => ?_) (fun c_9 => ?_)
  rotate_left
  · (first | exact absurd c_9 (by decide) | exact absurd (by decide) c_9)
  refine lv_goto (tgt := 1806) hx hb dL_law_516 (by decide) ?_
  refine lv_iinc (v := 7) (lv' := [(5, .int 7), (7, .int 0), (6, .int 1), (4, .ref qd), (3, .ref qo), (2, .ref m0), (1, .ref x0), (0, .ref b)]) hx hb dL_law_1806 hl (k := 2) rfl (by decide) (by decide) rfl (fun ls hl => ?_)
  refine lv_goto (tgt := 28) hx hb dL_law_1809 (by decide) ?_
  refine lv_iload hx hb dL_law_28 (lv_at hl 0 rfl) ?_
  refine lv_aload_n hx hb dL_law_30 rfl (lv_at hl 7 rfl) ?_
  refine va_slen hx hb hX hbl hbA hS dL_law_31 ?_
  refine lv_topi (fun x_10 ex_10 => ?_)
  obtain rfl : x_10 = 7 := ex_10.trans (by decide)
  refine lv_bipush (v := 7) hx hb dL_law_32 (by decide) ?_
  refine lv_isub hx hb dL_law_34 ?_
  refine lv_topi (fun x_11 ex_11 => ?_)
  obtain rfl : x_11 = 0 := ex_11.trans (by decide)
  refine lv_icmp_gt (tgt := 1812) hx hb dL_law_35 (by decide) (fun c_12 => ?_) (fun c_12 => ?_)
  rotate_left
  · (first | exact absurd c_12 (by decide) | exact absurd (by decide) c_12)
  refine lv_iconst (v := 1) hx hb dL_law_1812 (by decide) ?_
  refine va_forget (fun q hq => hA2 _ (hS.2.2 q hq)) ?_
  refine W.widen (k := room_1.cells) (n := room_1.slots) (Nat.le_of_ble_eq_true rfl) (Nat.le_of_ble_eq_true rfl) ?_
  exact lw_ret0 hx hb hr hlocks dL_law_1813

set_option maxHeartbeats 4000000 in
set_option maxRecDepth 100000 in
/-- the law, case 5 -/
theorem law_5 {p : Program} {l : Launch} (hnt : l.stackTraces = false) {e : Env} {s : State} {m : MethodId} {below : List Frame} {meth : Method} {c : Code} {dC : Nat → ClassId} {dI : Nat → Nat → Nat} {a0 b : Nat} {xs : Nat → Int32} (C0 : lw_At p s m meth c b 7 xs) {A : Nat → Prop} (hA : ∀ q : Nat, s.heap.size ≤ q → A q) (hA2 : ∀ q : Nat, A q → s.heap.size ≤ q) (hZ : zB a0 A s s.heap) {x0 : Nat} {qm : Nat} {qt : Nat} {qw : Nat} {qc : Nat} {qb : Nat} {qg : Nat} {m0 : Nat} {l1 : Nat} {l2 : Nat} {qo : Nat} {qd : Nat} {cM : ClassId} {cT : ClassId} {cL : ClassId} {cD : ClassId} {H : Heap} {locs : List Loc} (hK : va_K (dC, dI) vwCl [(cM, .object "Haltingale$Machine"), (cT, .object "Haltingale$Tag"), (cL, .long), (cD, .double)] s) (hP : va_P (dC, dI) vwCl [(x0, .inr (9, [.ref qm, .ref qt, .ref qw, .ref qc, .ref qb, .ref qg, .int 0, .int 0, .int 0, .int 0, .int 0])), (qm, .inl (cM, 12, .inr (.inr (.inr (.inr (fun _ => none)))))), (qt, .inl (cT, 4, .inr (.inr (.inr (.inr (fun _ => none)))))), (m0, .inr (12, [.int 0, .ref l1, .ref l2, .int 0, .int 0, .int 0, .long 0])), (l1, .inr (1, [.int 0, .ref a0, .int 0])), (l2, .inr (1, [.int 0, .ref a0, .int 0])), (qo, .inl (cL, 1, .inr (.inl (fun _ => 0)))), (qd, .inl (cD, 1, .inr (.inr (.inr (.inl (fun _ => 0))))))] H) (hD : va_D A [(x0, .inr (9, [.ref qm, .ref qt, .ref qw, .ref qc, .ref qb, .ref qg, .int 0, .int 0, .int 0, .int 0, .int 0])), (qm, .inl (cM, 12, .inr (.inr (.inr (.inr (fun _ => none)))))), (qt, .inl (cT, 4, .inr (.inr (.inr (.inr (fun _ => none)))))), (m0, .inr (12, [.int 0, .ref l1, .ref l2, .int 0, .int 0, .int 0, .long 0])), (l1, .inr (1, [.int 0, .ref a0, .int 0])), (l2, .inr (1, [.int 0, .ref a0, .int 0])), (qo, .inl (cL, 1, .inr (.inl (fun _ => 0)))), (qd, .inl (cD, 1, .inr (.inr (.inr (.inl (fun _ => 0))))))]) (hS : va_S A s.heap H locs) {ls : Array Slot} (hl : lv_has ls 10 [(5, .int 0), (4, .ref qd), (3, .ref qo), (2, .ref m0), (1, .ref x0), (0, .ref b)])  : W p l e room_1 s m #[Value.ref b] below meth c H locs 31 4324 (lw_Z below #[Value.ref b] s) (F0 m 599 ls []) := by
  obtain ⟨hx, hb, hr, hml, hown, hts0, hX, hbl, hlocks, hgv⟩ := C0
  have hts : ∀ w ∈ zs_law, w.before #[Value.ref b] s = true := fun w h => hts0 w (zs_law_in w h)
  have hbA : ¬ A b := fun h => absurd (hA2 b h) (Nat.not_le.mpr hbl)
  refine lv_aload_n hx hb dL_law_599 rfl (lv_at hl 4 rfl) ?_
  refine lv_aload_n hx hb dL_law_600 rfl (lv_at hl 5 rfl) ?_
  refine lv_iload hx hb dL_law_601 (lv_at hl 0 rfl) ?_
  refine lv_iconst (v := 1) hx hb dL_law_603 (by decide) ?_
  refine lv_iadd hx hb dL_law_604 ?_
  refine lv_topi (fun x_1 ex_1 => ?_)
  obtain rfl : x_1 = 1 := ex_1.trans (by decide)
  refine va_sld hx hb hX hbl hbA hS (by unfold vp_in; decide) dL_law_605 ?_
  refine lv_aload_n hx hb dL_law_606 rfl (lv_at hl 5 rfl) ?_
  refine lv_iload hx hb dL_law_607 (lv_at hl 0 rfl) ?_
  refine lv_iconst (v := 2) hx hb dL_law_609 (by decide) ?_
  refine lv_iadd hx hb dL_law_610 ?_
  refine lv_topi (fun x_2 ex_2 => ?_)
  obtain rfl : x_2 = 2 := ex_2.trans (by decide)
  refine va_sld hx hb hX hbl hbA hS (by unfold vp_in; decide) dL_law_611 ?_
  refine lv_aload_n hx hb dL_law_612 rfl (lv_at hl 5 rfl) ?_
  refine lv_iload hx hb dL_law_613 (lv_at hl 0 rfl) ?_
  refine lv_iconst (v := 3) hx hb dL_law_615 (by decide) ?_
  refine lv_iadd hx hb dL_law_616 ?_
  refine lv_topi (fun x_3 ex_3 => ?_)
  obtain rfl : x_3 = 3 := ex_3.trans (by decide)
  refine va_sld hx hb hX hbl hbA hS (by unfold vp_in; decide) dL_law_617 ?_
  refine lv_aload_n hx hb dL_law_618 rfl (lv_at hl 5 rfl) ?_
  refine lv_iload hx hb dL_law_619 (lv_at hl 0 rfl) ?_
  refine lv_iconst (v := 4) hx hb dL_law_621 (by decide) ?_
  refine lv_iadd hx hb dL_law_622 ?_
  refine lv_topi (fun x_4 ex_4 => ?_)
  obtain rfl : x_4 = 4 := ex_4.trans (by decide)
  refine va_sld hx hb hX hbl hbA hS (by unfold vp_in; decide) dL_law_623 ?_
  refine lv_aload_n hx hb dL_law_624 rfl (lv_at hl 2 rfl) ?_
  have hPc := hP.sub (ws' := [(x0, .inr (9, [.ref qm, .ref qt, .ref qw, .ref qc, .ref qb, .ref qg, .int 0, .int 0, .int 0, .int 0, .int 0])), (qo, .inl (cL, 1, .inr (.inl (fun _ => 0))))]) [0, 6] rfl
  have hDc := hD.sub (ws' := [(x0, .inr (9, [.ref qm, .ref qt, .ref qw, .ref qc, .ref qb, .ref qg, .int 0, .int 0, .int 0, .int 0, .int 0])), (qo, .inl (cL, 1, .inr (.inl (fun _ => 0))))]) [0, 6] (by decide) rfl
  have hKc := hK.sub (tys' := [(cL, .long)]) [2] rfl
  have hFc := va_free (wc := [(x0, .inr (9, [.ref qm, .ref qt, .ref qw, .ref qc, .ref qb, .ref qg, .int 0, .int 0, .int 0, .int 0, .int 0])), (qo, .inl (cL, 1, .inr (.inl (fun _ => 0))))]) hD hS hA [0, 6] rfl
  have hZc := ((hZ.kept hS.2.1).narrow hFc)
  refine va_calli (vx_runSW (As := [.ref x0, .int (xs ((1 : Int32).toNatClampNeg)), .int (xs ((2 : Int32).toNatClampNeg)), .int (xs ((3 : Int32).toNatClampNeg)), .int (xs ((4 : Int32).toNatClampNeg)), .ref qo]) (rest := []) ⟨hx, hb, hml, hown, hts⟩ (c_L_prove l hnt dC dI a0 x0 qm qt qw qc qb qg qo cL ((xs ((1 : Int32).toNatClampNeg))) ((xs ((2 : Int32).toNatClampNeg))) ((xs ((3 : Int32).toNatClampNeg))) ((xs ((4 : Int32).toNatClampNeg))) H.size ) (vx_cwSW 6 hts (goodIn_of _ (by decide +kernel)) rfl rfl rfl (by decide +kernel) ⟨Nat.le_of_ble_eq_true rfl, Nat.le_of_ble_eq_true rfl⟩) ⟨fun a U g mk q => by obtain ⟨q0, q1, qP, qK, qD, qZ⟩ := q; exact ⟨q0, q1, qP, va_K.moved (u := U) (U := U.calling g mk a) (Vm.Alike.refl U.vm) qK, qD, qZ.call⟩, fun U hU hW => ⟨rfl, by rw [hU], by rw [hU]; exact hPc, va_K.moved hW.alike hKc, hDc.weaken (fun _ _ _ _ => trivial), by rw [hU]; exact hZc.warm hW⟩⟩ rfl rfl hl.1 rfl (lv_room (Nat.le_of_ble_eq_true rfl)) dL_law_625 ⟨Nat.le_of_ble_eq_true rfl, Nat.le_of_ble_eq_true rfl⟩) hS (fun q _ h => hFc q h) hFc (fun r_5 u t H1 locs ht hvm hw hB hz1 hk1 hS => ?_)
  obtain ⟨hP1, hK1, hD1⟩ := hB
  rw [ht] at hP1
  have hK1 := va_K.moved hvm.symm hK1
  obtain ⟨hP, hD⟩ := va_join (wr := [(qm, .inl (cM, 12, .inr (.inr (.inr (.inr (fun _ => none)))))), (qt, .inl (cT, 4, .inr (.inr (.inr (.inr (fun _ => none)))))), (m0, .inr (12, [.int 0, .ref l1, .ref l2, .int 0, .int 0, .int 0, .long 0])), (l1, .inr (1, [.int 0, .ref a0, .int 0])), (l2, .inr (1, [.int 0, .ref a0, .int 0])), (qd, .inl (cD, 1, .inr (.inr (.inr (.inl (fun _ => 0))))))]) (w1 := []) hP hD [0, 6] [1, 2, 3, 4, 5, 7] rfl rfl (by decide) (by decide) hk1 hFc hP1 hD1
  have hK := (hK.sub (tys' := [(cM, .object "Haltingale$Machine"), (cT, .object "Haltingale$Tag"), (cL, .long), (cD, .double)]) [0, 1, 2, 3] rfl).app hK1
  generalize H1 = H at hP hS ⊢
  have hP : va_P (dC, dI) vwCl [(qm, .inl (cM, 12, .inr (.inr (.inr (.inr (fun _ => none)))))), (qt, .inl (cT, 4, .inr (.inr (.inr (.inr (fun _ => none)))))), (m0, .inr (12, [.int 0, .ref l1, .ref l2, .int 0, .int 0, .int 0, .long 0])), (l1, .inr (1, [.int 0, .ref a0, .int 0])), (l2, .inr (1, [.int 0, .ref a0, .int 0])), (qd, .inl (cD, 1, .inr (.inr (.inr (.inl (fun _ => 0))))))] H := hP
  have hD : va_D A [(qm, .inl (cM, 12, .inr (.inr (.inr (.inr (fun _ => none)))))), (qt, .inl (cT, 4, .inr (.inr (.inr (.inr (fun _ => none)))))), (m0, .inr (12, [.int 0, .ref l1, .ref l2, .int 0, .int 0, .int 0, .long 0])), (l1, .inr (1, [.int 0, .ref a0, .int 0])), (l2, .inr (1, [.int 0, .ref a0, .int 0])), (qd, .inl (cD, 1, .inr (.inr (.inr (.inl (fun _ => 0))))))] := hD
  have hK : va_K (dC, dI) vwCl [(cM, .object "Haltingale$Machine"), (cT, .object "Haltingale$Tag"), (cL, .long), (cD, .double)] s := hK
  refine W.widen (k := 32) (n := 4330) (Nat.le_of_ble_eq_true rfl) (Nat.le_of_ble_eq_true rfl) ?_
  obtain rfl : r_5 = 1 := hw
  refine lv_istore (lv' := [(6, .int 1), (5, .int 0), (4, .ref qd), (3, .ref qo), (2, .ref m0), (1, .ref x0), (0, .ref b)]) hx hb dL_law_628 hl (by decide) rfl (fun ls hl => ?_)
  refine lv_aload_n hx hb dL_law_630 rfl (lv_at hl 4 rfl) ?_
  refine lv_aload_n hx hb dL_law_631 rfl (lv_at hl 6 rfl) ?_
  refine lv_iload hx hb dL_law_632 (lv_at hl 1 rfl) ?_
  refine lv_iconst (v := 1) hx hb dL_law_634 (by decide) ?_
  refine lv_iadd hx hb dL_law_635 ?_
  refine lv_topi (fun x_6 ex_6 => ?_)
  obtain rfl : x_6 = 1 := ex_6.trans (by decide)
  refine va_sld hx hb hX hbl hbA hS (by unfold vp_in; decide) dL_law_636 ?_
  refine lv_aload_n hx hb dL_law_637 rfl (lv_at hl 6 rfl) ?_
  refine lv_iload hx hb dL_law_638 (lv_at hl 1 rfl) ?_
  refine lv_iconst (v := 2) hx hb dL_law_640 (by decide) ?_
  refine lv_iadd hx hb dL_law_641 ?_
  refine lv_topi (fun x_7 ex_7 => ?_)
  obtain rfl : x_7 = 2 := ex_7.trans (by decide)
  refine va_sld hx hb hX hbl hbA hS (by unfold vp_in; decide) dL_law_642 ?_
  refine lv_aload_n hx hb dL_law_643 rfl (lv_at hl 6 rfl) ?_
  refine lv_iload hx hb dL_law_644 (lv_at hl 1 rfl) ?_
  refine lv_iconst (v := 3) hx hb dL_law_646 (by decide) ?_
  refine lv_iadd hx hb dL_law_647 ?_
  refine lv_topi (fun x_8 ex_8 => ?_)
  obtain rfl : x_8 = 3 := ex_8.trans (by decide)
  refine va_sld hx hb hX hbl hbA hS (by unfold vp_in; decide) dL_law_648 ?_
  refine lv_aload_n hx hb dL_law_649 rfl (lv_at hl 6 rfl) ?_
  refine lv_iload hx hb dL_law_650 (lv_at hl 1 rfl) ?_
  refine lv_iconst (v := 4) hx hb dL_law_652 (by decide) ?_
  refine lv_iadd hx hb dL_law_653 ?_
  refine lv_topi (fun x_9 ex_9 => ?_)
  obtain rfl : x_9 = 4 := ex_9.trans (by decide)
  refine va_sld hx hb hX hbl hbA hS (by unfold vp_in; decide) dL_law_654 ?_
  have hPc := hP.sub (ws' := [(m0, .inr (12, [.int 0, .ref l1, .ref l2, .int 0, .int 0, .int 0, .long 0])), (l1, .inr (1, [.int 0, .ref a0, .int 0]))]) [2, 3] rfl
  have hDc := hD.sub (ws' := [(m0, .inr (12, [.int 0, .ref l1, .ref l2, .int 0, .int 0, .int 0, .long 0])), (l1, .inr (1, [.int 0, .ref a0, .int 0]))]) [2, 3] (by decide) rfl
  have hKc := hK.sub (tys' := []) [] rfl
  have hFc := va_free (wc := [(m0, .inr (12, [.int 0, .ref l1, .ref l2, .int 0, .int 0, .int 0, .long 0])), (l1, .inr (1, [.int 0, .ref a0, .int 0]))]) hD hS hA [2, 3] rfl
  have hZc := ((hZ.kept hS.2.1).narrow hFc)
  refine va_calli (va_runV (As := [.int (xs ((1 : Int32).toNatClampNeg)), .int (xs ((2 : Int32).toNatClampNeg)), .int (xs ((3 : Int32).toNatClampNeg)), .int (xs ((4 : Int32).toNatClampNeg))]) (rest := []) ⟨hx, hb, hml, hown, hts⟩ (c_X10_prove l hnt dC dI a0 m0 l1 l2 ((xs ((1 : Int32).toNatClampNeg))) ((xs ((2 : Int32).toNatClampNeg))) ((xs ((3 : Int32).toNatClampNeg))) ((xs ((4 : Int32).toNatClampNeg))) H.size ) (cwV 4 hts (goodIn_of _ (by decide +kernel)) rfl rfl rfl (by decide +kernel) ⟨Nat.le_of_ble_eq_true rfl, Nat.le_of_ble_eq_true rfl⟩) ⟨fun a U g mk q => by obtain ⟨q0, q1, qP, qK, qD, qZ⟩ := q; exact ⟨q0, q1, qP, va_K.moved (u := U) (U := U.calling g mk a) (Vm.Alike.refl U.vm) qK, qD, qZ.call⟩, va_recv hKc hPc (ci := 12) (q0 := 0) rfl rfl, fun U hU hW => ⟨rfl, by rw [hU], by rw [hU]; exact hPc, va_K.moved hW.alike hKc, hDc.weaken (fun _ _ _ _ => trivial), by rw [hU]; exact hZc.warm hW⟩⟩ rfl rfl hl.1 rfl (lv_room (Nat.le_of_ble_eq_true rfl)) dL_law_655 ⟨Nat.le_of_ble_eq_true rfl, Nat.le_of_ble_eq_true rfl⟩) hS (fun q _ h => hFc q h) hFc (fun r_10 u t H1 locs ht hvm hw hB hz1 hk1 hS => ?_)
  obtain ⟨hP1, hK1, hD1⟩ := hB
  rw [ht] at hP1
  have hK1 := va_K.moved hvm.symm hK1
  obtain ⟨hP, hD⟩ := va_join (wr := [(qm, .inl (cM, 12, .inr (.inr (.inr (.inr (fun _ => none)))))), (qt, .inl (cT, 4, .inr (.inr (.inr (.inr (fun _ => none)))))), (l2, .inr (1, [.int 0, .ref a0, .int 0])), (qd, .inl (cD, 1, .inr (.inr (.inr (.inl (fun _ => 0))))))]) (w1 := [(m0, .inr (12, [.int 1, .ref l1, .ref l2, .int 0, .int 0, .int 0, .long 0]))]) hP hD [2, 3] [0, 1, 4, 5] rfl rfl (by decide) (by decide) hk1 hFc hP1 hD1
  have hK := (hK.sub (tys' := [(cM, .object "Haltingale$Machine"), (cT, .object "Haltingale$Tag"), (cL, .long), (cD, .double)]) [0, 1, 2, 3] rfl).app hK1
  generalize H1 = H at hP hS ⊢
  have hP : va_P (dC, dI) vwCl [(qm, .inl (cM, 12, .inr (.inr (.inr (.inr (fun _ => none)))))), (qt, .inl (cT, 4, .inr (.inr (.inr (.inr (fun _ => none)))))), (l2, .inr (1, [.int 0, .ref a0, .int 0])), (qd, .inl (cD, 1, .inr (.inr (.inr (.inl (fun _ => 0)))))), (m0, .inr (12, [.int 1, .ref l1, .ref l2, .int 0, .int 0, .int 0, .long 0]))] H := hP
  have hD : va_D A [(qm, .inl (cM, 12, .inr (.inr (.inr (.inr (fun _ => none)))))), (qt, .inl (cT, 4, .inr (.inr (.inr (.inr (fun _ => none)))))), (l2, .inr (1, [.int 0, .ref a0, .int 0])), (qd, .inl (cD, 1, .inr (.inr (.inr (.inl (fun _ => 0)))))), (m0, .inr (12, [.int 1, .ref l1, .ref l2, .int 0, .int 0, .int 0, .long 0]))] := hD
  have hK : va_K (dC, dI) vwCl [(cM, .object "Haltingale$Machine"), (cT, .object "Haltingale$Tag"), (cL, .long), (cD, .double)] s := hK
  refine W.widen (k := 32) (n := 4330) (Nat.le_of_ble_eq_true rfl) (Nat.le_of_ble_eq_true rfl) ?_
  obtain rfl : r_10 = 0 := hw
  refine lv_istore (lv' := [(7, .int 0), (6, .int 1), (5, .int 0), (4, .ref qd), (3, .ref qo), (2, .ref m0), (1, .ref x0), (0, .ref b)]) hx hb dL_law_658 hl (by decide) rfl (fun ls hl => ?_)
  refine lv_aload_n hx hb dL_law_660 rfl (lv_at hl 5 rfl) ?_
  have hPc := hP.sub (ws' := [(m0, .inr (12, [.int 1, .ref l1, .ref l2, .int 0, .int 0, .int 0, .long 0]))]) [4] rfl
  have hDc := hD.sub (ws' := [(m0, .inr (12, [.int 1, .ref l1, .ref l2, .int 0, .int 0, .int 0, .long 0]))]) [4] (by decide) rfl
  have hKc := hK.sub (tys' := []) [] rfl
  have hFc := va_free (wc := [(m0, .inr (12, [.int 1, .ref l1, .ref l2, .int 0, .int 0, .int 0, .long 0]))]) hD hS hA [4] rfl
  have hZc := ((hZ.kept hS.2.1).narrow hFc)
  refine va_calli (va_runV (As := []) (rest := []) ⟨hx, hb, hml, hown, hts⟩ (c_X10_thrown l hnt dC dI a0 m0 l1 l2 1 H.size ) (cwV 0 hts (goodIn_of _ (by decide +kernel)) rfl rfl rfl (by decide +kernel) ⟨Nat.le_of_ble_eq_true rfl, Nat.le_of_ble_eq_true rfl⟩) ⟨fun a U g mk q => by obtain ⟨q0, q1, qP, qK, qD, qZ⟩ := q; exact ⟨q0, q1, qP, va_K.moved (u := U) (U := U.calling g mk a) (Vm.Alike.refl U.vm) qK, qD, qZ.call⟩, va_recv hKc hPc (ci := 12) (q0 := 0) rfl rfl, fun U hU hW => ⟨rfl, by rw [hU], by rw [hU]; exact hPc, va_K.moved hW.alike hKc, hDc.weaken (fun _ _ _ _ => trivial), by rw [hU]; exact hZc.warm hW⟩⟩ rfl rfl hl.1 rfl (lv_room (Nat.le_of_ble_eq_true rfl)) dL_law_661 ⟨Nat.le_of_ble_eq_true rfl, Nat.le_of_ble_eq_true rfl⟩) hS (fun q _ h => hFc q h) hFc (fun r_11 u t H1 locs ht hvm hw hB hz1 hk1 hS => ?_)
  obtain ⟨hP1, hK1, hD1⟩ := hB
  rw [ht] at hP1
  have hK1 := va_K.moved hvm.symm hK1
  obtain ⟨hP, hD⟩ := va_join (wr := [(qm, .inl (cM, 12, .inr (.inr (.inr (.inr (fun _ => none)))))), (qt, .inl (cT, 4, .inr (.inr (.inr (.inr (fun _ => none)))))), (l2, .inr (1, [.int 0, .ref a0, .int 0])), (qd, .inl (cD, 1, .inr (.inr (.inr (.inl (fun _ => 0))))))]) (w1 := []) hP hD [4] [0, 1, 2, 3] rfl rfl (by decide) (by decide) hk1 hFc hP1 hD1
  have hK := (hK.sub (tys' := [(cM, .object "Haltingale$Machine"), (cT, .object "Haltingale$Tag"), (cL, .long), (cD, .double)]) [0, 1, 2, 3] rfl).app hK1
  generalize H1 = H at hP hS ⊢
  have hP : va_P (dC, dI) vwCl [(qm, .inl (cM, 12, .inr (.inr (.inr (.inr (fun _ => none)))))), (qt, .inl (cT, 4, .inr (.inr (.inr (.inr (fun _ => none)))))), (l2, .inr (1, [.int 0, .ref a0, .int 0])), (qd, .inl (cD, 1, .inr (.inr (.inr (.inl (fun _ => 0))))))] H := hP
  have hD : va_D A [(qm, .inl (cM, 12, .inr (.inr (.inr (.inr (fun _ => none)))))), (qt, .inl (cT, 4, .inr (.inr (.inr (.inr (fun _ => none)))))), (l2, .inr (1, [.int 0, .ref a0, .int 0])), (qd, .inl (cD, 1, .inr (.inr (.inr (.inl (fun _ => 0))))))] := hD
  have hK : va_K (dC, dI) vwCl [(cM, .object "Haltingale$Machine"), (cT, .object "Haltingale$Tag"), (cL, .long), (cD, .double)] s := hK
  refine W.widen (k := 32) (n := 4330) (Nat.le_of_ble_eq_true rfl) (Nat.le_of_ble_eq_true rfl) ?_
  obtain rfl : r_11 = 1 := hw
  refine lv_iload hx hb dL_law_664 (lv_at hl 1 rfl) ?_
  refine lv_icmp_eq (tgt := 671) hx hb dL_law_666 (by decide) (fun c_12 => ?_) (fun c_12 => ?_)
  rotate_left
  · (first | exact absurd c_12 (by decide) | exact absurd (by decide) c_12)
  refine lv_iload hx hb dL_law_671 (lv_at hl 1 rfl) ?_
  refine lv_if_ne (tgt := 695) hx hb dL_law_673 (by decide) (fun c_13 => ?_) (fun c_13 => ?_)
  rotate_left
  · (first | exact absurd c_13 (by decide) | exact absurd (by decide) c_13)
  refine lv_goto (tgt := 1806) hx hb dL_law_695 (by decide) ?_
  refine lv_iinc (v := 7) (lv' := [(5, .int 7), (7, .int 0), (6, .int 1), (4, .ref qd), (3, .ref qo), (2, .ref m0), (1, .ref x0), (0, .ref b)]) hx hb dL_law_1806 hl (k := 2) rfl (by decide) (by decide) rfl (fun ls hl => ?_)
  refine lv_goto (tgt := 28) hx hb dL_law_1809 (by decide) ?_
  refine lv_iload hx hb dL_law_28 (lv_at hl 0 rfl) ?_
  refine lv_aload_n hx hb dL_law_30 rfl (lv_at hl 7 rfl) ?_
  refine va_slen hx hb hX hbl hbA hS dL_law_31 ?_
  refine lv_topi (fun x_14 ex_14 => ?_)
  obtain rfl : x_14 = 7 := ex_14.trans (by decide)
  refine lv_bipush (v := 7) hx hb dL_law_32 (by decide) ?_
  refine lv_isub hx hb dL_law_34 ?_
  refine lv_topi (fun x_15 ex_15 => ?_)
  obtain rfl : x_15 = 0 := ex_15.trans (by decide)
  refine lv_icmp_gt (tgt := 1812) hx hb dL_law_35 (by decide) (fun c_16 => ?_) (fun c_16 => ?_)
  rotate_left
  · (first | exact absurd c_16 (by decide) | exact absurd (by decide) c_16)
  refine lv_iconst (v := 1) hx hb dL_law_1812 (by decide) ?_
  refine va_forget (fun q hq => hA2 _ (hS.2.2 q hq)) ?_
  refine W.widen (k := room_1.cells) (n := room_1.slots) (Nat.le_of_ble_eq_true rfl) (Nat.le_of_ble_eq_true rfl) ?_
  exact lw_ret0 hx hb hr hlocks dL_law_1813

set_option maxHeartbeats 4000000 in
set_option maxRecDepth 100000 in
/-- the law, case 7 -/
theorem law_7 {p : Program} {l : Launch} (hnt : l.stackTraces = false) {e : Env} {s : State} {m : MethodId} {below : List Frame} {meth : Method} {c : Code} {dC : Nat → ClassId} {dI : Nat → Nat → Nat} {a0 b : Nat} {xs : Nat → Int32} (C0 : lw_At p s m meth c b 7 xs) {A : Nat → Prop} (hA : ∀ q : Nat, s.heap.size ≤ q → A q) (hA2 : ∀ q : Nat, A q → s.heap.size ≤ q) (hZ : zB a0 A s s.heap) {x0 : Nat} {qm : Nat} {qt : Nat} {qw : Nat} {qc : Nat} {qb : Nat} {qg : Nat} {m0 : Nat} {l1 : Nat} {l2 : Nat} {qo : Nat} {qd : Nat} {cM : ClassId} {cT : ClassId} {cL : ClassId} {cD : ClassId} {H : Heap} {locs : List Loc} (hK : va_K (dC, dI) vwCl [(cM, .object "Haltingale$Machine"), (cT, .object "Haltingale$Tag"), (cL, .long), (cD, .double)] s) (hP : va_P (dC, dI) vwCl [(x0, .inr (9, [.ref qm, .ref qt, .ref qw, .ref qc, .ref qb, .ref qg, .int 0, .int 0, .int 0, .int 0, .int 0])), (qm, .inl (cM, 12, .inr (.inr (.inr (.inr (fun _ => none)))))), (qt, .inl (cT, 4, .inr (.inr (.inr (.inr (fun _ => none)))))), (m0, .inr (12, [.int 0, .ref l1, .ref l2, .int 0, .int 0, .int 0, .long 0])), (l1, .inr (1, [.int 0, .ref a0, .int 0])), (l2, .inr (1, [.int 0, .ref a0, .int 0])), (qo, .inl (cL, 1, .inr (.inl (fun _ => 0)))), (qd, .inl (cD, 1, .inr (.inr (.inr (.inl (fun _ => 0))))))] H) (hD : va_D A [(x0, .inr (9, [.ref qm, .ref qt, .ref qw, .ref qc, .ref qb, .ref qg, .int 0, .int 0, .int 0, .int 0, .int 0])), (qm, .inl (cM, 12, .inr (.inr (.inr (.inr (fun _ => none)))))), (qt, .inl (cT, 4, .inr (.inr (.inr (.inr (fun _ => none)))))), (m0, .inr (12, [.int 0, .ref l1, .ref l2, .int 0, .int 0, .int 0, .long 0])), (l1, .inr (1, [.int 0, .ref a0, .int 0])), (l2, .inr (1, [.int 0, .ref a0, .int 0])), (qo, .inl (cL, 1, .inr (.inl (fun _ => 0)))), (qd, .inl (cD, 1, .inr (.inr (.inr (.inl (fun _ => 0))))))]) (hS : va_S A s.heap H locs) {ls : Array Slot} (hl : lv_has ls 10 [(5, .int 0), (4, .ref qd), (3, .ref qo), (2, .ref m0), (1, .ref x0), (0, .ref b)])  : W p l e room_1 s m #[Value.ref b] below meth c H locs 31 4324 (lw_Z below #[Value.ref b] s) (F0 m 754 ls []) := by
  obtain ⟨hx, hb, hr, hml, hown, hts0, hX, hbl, hlocks, hgv⟩ := C0
  have hts : ∀ w ∈ zs_law, w.before #[Value.ref b] s = true := fun w h => hts0 w (zs_law_in w h)
  have hbA : ¬ A b := fun h => absurd (hA2 b h) (Nat.not_le.mpr hbl)
  refine lv_aload_n hx hb dL_law_754 rfl (lv_at hl 4 rfl) ?_
  refine lv_aload_n hx hb dL_law_755 rfl (lv_at hl 5 rfl) ?_
  refine lv_iload hx hb dL_law_756 (lv_at hl 0 rfl) ?_
  refine lv_iconst (v := 1) hx hb dL_law_758 (by decide) ?_
  refine lv_iadd hx hb dL_law_759 ?_
  refine lv_topi (fun x_1 ex_1 => ?_)
  obtain rfl : x_1 = 1 := ex_1.trans (by decide)
  refine va_sld hx hb hX hbl hbA hS (by unfold vp_in; decide) dL_law_760 ?_
  refine lv_aload_n hx hb dL_law_761 rfl (lv_at hl 2 rfl) ?_
  have hPc := hP.sub (ws' := [(x0, .inr (9, [.ref qm, .ref qt, .ref qw, .ref qc, .ref qb, .ref qg, .int 0, .int 0, .int 0, .int 0, .int 0])), (qo, .inl (cL, 1, .inr (.inl (fun _ => 0))))]) [0, 6] rfl
  have hDc := hD.sub (ws' := [(x0, .inr (9, [.ref qm, .ref qt, .ref qw, .ref qc, .ref qb, .ref qg, .int 0, .int 0, .int 0, .int 0, .int 0])), (qo, .inl (cL, 1, .inr (.inl (fun _ => 0))))]) [0, 6] (by decide) rfl
  have hKc := hK.sub (tys' := [(cL, .long)]) [2] rfl
  have hFc := va_free (wc := [(x0, .inr (9, [.ref qm, .ref qt, .ref qw, .ref qc, .ref qb, .ref qg, .int 0, .int 0, .int 0, .int 0, .int 0])), (qo, .inl (cL, 1, .inr (.inl (fun _ => 0))))]) hD hS hA [0, 6] rfl
  have hZc := ((hZ.kept hS.2.1).narrow hFc)
  refine va_calli (vx_runSW (As := [.ref x0, .int (xs ((1 : Int32).toNatClampNeg)), .ref qo]) (rest := []) ⟨hx, hb, hml, hown, hts⟩ (c_L_decide l hnt dC dI a0 x0 qm qt qw qc qb qg qo cL ((xs ((1 : Int32).toNatClampNeg))) H.size ) (vx_cwSW 3 hts (goodIn_of _ (by decide +kernel)) rfl rfl rfl (by decide +kernel) ⟨Nat.le_of_ble_eq_true rfl, Nat.le_of_ble_eq_true rfl⟩) ⟨fun a U g mk q => by obtain ⟨q0, q1, qP, qK, qD, qZ⟩ := q; exact ⟨q0, q1, qP, va_K.moved (u := U) (U := U.calling g mk a) (Vm.Alike.refl U.vm) qK, qD, qZ.call⟩, fun U hU hW => ⟨rfl, by rw [hU], by rw [hU]; exact hPc, va_K.moved hW.alike hKc, hDc.weaken (fun _ _ _ _ => trivial), by rw [hU]; exact hZc.warm hW⟩⟩ rfl rfl hl.1 rfl (lv_room (Nat.le_of_ble_eq_true rfl)) dL_law_762 ⟨Nat.le_of_ble_eq_true rfl, Nat.le_of_ble_eq_true rfl⟩) hS (fun q _ h => hFc q h) hFc (fun r_2 u t H1 locs ht hvm hw hB hz1 hk1 hS => ?_)
  obtain ⟨hP1, hK1, hD1⟩ := hB
  rw [ht] at hP1
  have hK1 := va_K.moved hvm.symm hK1
  obtain ⟨hP, hD⟩ := va_join (wr := [(qm, .inl (cM, 12, .inr (.inr (.inr (.inr (fun _ => none)))))), (qt, .inl (cT, 4, .inr (.inr (.inr (.inr (fun _ => none)))))), (m0, .inr (12, [.int 0, .ref l1, .ref l2, .int 0, .int 0, .int 0, .long 0])), (l1, .inr (1, [.int 0, .ref a0, .int 0])), (l2, .inr (1, [.int 0, .ref a0, .int 0])), (qd, .inl (cD, 1, .inr (.inr (.inr (.inl (fun _ => 0))))))]) (w1 := []) hP hD [0, 6] [1, 2, 3, 4, 5, 7] rfl rfl (by decide) (by decide) hk1 hFc hP1 hD1
  have hK := (hK.sub (tys' := [(cM, .object "Haltingale$Machine"), (cT, .object "Haltingale$Tag"), (cL, .long), (cD, .double)]) [0, 1, 2, 3] rfl).app hK1
  generalize H1 = H at hP hS ⊢
  have hP : va_P (dC, dI) vwCl [(qm, .inl (cM, 12, .inr (.inr (.inr (.inr (fun _ => none)))))), (qt, .inl (cT, 4, .inr (.inr (.inr (.inr (fun _ => none)))))), (m0, .inr (12, [.int 0, .ref l1, .ref l2, .int 0, .int 0, .int 0, .long 0])), (l1, .inr (1, [.int 0, .ref a0, .int 0])), (l2, .inr (1, [.int 0, .ref a0, .int 0])), (qd, .inl (cD, 1, .inr (.inr (.inr (.inl (fun _ => 0))))))] H := hP
  have hD : va_D A [(qm, .inl (cM, 12, .inr (.inr (.inr (.inr (fun _ => none)))))), (qt, .inl (cT, 4, .inr (.inr (.inr (.inr (fun _ => none)))))), (m0, .inr (12, [.int 0, .ref l1, .ref l2, .int 0, .int 0, .int 0, .long 0])), (l1, .inr (1, [.int 0, .ref a0, .int 0])), (l2, .inr (1, [.int 0, .ref a0, .int 0])), (qd, .inl (cD, 1, .inr (.inr (.inr (.inl (fun _ => 0))))))] := hD
  have hK : va_K (dC, dI) vwCl [(cM, .object "Haltingale$Machine"), (cT, .object "Haltingale$Tag"), (cL, .long), (cD, .double)] s := hK
  refine W.widen (k := 32) (n := 4330) (Nat.le_of_ble_eq_true rfl) (Nat.le_of_ble_eq_true rfl) ?_
  obtain rfl : r_2 = 1 := hw
  refine lv_istore (lv' := [(6, .int 1), (5, .int 0), (4, .ref qd), (3, .ref qo), (2, .ref m0), (1, .ref x0), (0, .ref b)]) hx hb dL_law_765 hl (by decide) rfl (fun ls hl => ?_)
  refine lv_aload_n hx hb dL_law_767 rfl (lv_at hl 4 rfl) ?_
  refine lv_aload_n hx hb dL_law_768 rfl (lv_at hl 6 rfl) ?_
  refine lv_iload hx hb dL_law_769 (lv_at hl 1 rfl) ?_
  refine lv_iconst (v := 1) hx hb dL_law_771 (by decide) ?_
  refine lv_iadd hx hb dL_law_772 ?_
  refine lv_topi (fun x_3 ex_3 => ?_)
  obtain rfl : x_3 = 1 := ex_3.trans (by decide)
  refine va_sld hx hb hX hbl hbA hS (by unfold vp_in; decide) dL_law_773 ?_
  have hPc := hP.sub (ws' := [(m0, .inr (12, [.int 0, .ref l1, .ref l2, .int 0, .int 0, .int 0, .long 0])), (l1, .inr (1, [.int 0, .ref a0, .int 0]))]) [2, 3] rfl
  have hDc := hD.sub (ws' := [(m0, .inr (12, [.int 0, .ref l1, .ref l2, .int 0, .int 0, .int 0, .long 0])), (l1, .inr (1, [.int 0, .ref a0, .int 0]))]) [2, 3] (by decide) rfl
  have hKc := hK.sub (tys' := []) [] rfl
  have hFc := va_free (wc := [(m0, .inr (12, [.int 0, .ref l1, .ref l2, .int 0, .int 0, .int 0, .long 0])), (l1, .inr (1, [.int 0, .ref a0, .int 0]))]) hD hS hA [2, 3] rfl
  have hZc := ((hZ.kept hS.2.1).narrow hFc)
  refine va_calli (va_runV (As := [.int (xs ((1 : Int32).toNatClampNeg))]) (rest := []) ⟨hx, hb, hml, hown, hts⟩ (c_X10_decide l hnt dC dI a0 m0 l1 l2 ((xs ((1 : Int32).toNatClampNeg))) H.size ) (cwV 1 hts (goodIn_of _ (by decide +kernel)) rfl rfl rfl (by decide +kernel) ⟨Nat.le_of_ble_eq_true rfl, Nat.le_of_ble_eq_true rfl⟩) ⟨fun a U g mk q => by obtain ⟨q0, q1, qP, qK, qD, qZ⟩ := q; exact ⟨q0, q1, qP, va_K.moved (u := U) (U := U.calling g mk a) (Vm.Alike.refl U.vm) qK, qD, qZ.call⟩, va_recv hKc hPc (ci := 12) (q0 := 0) rfl rfl, fun U hU hW => ⟨rfl, by rw [hU], by rw [hU]; exact hPc, va_K.moved hW.alike hKc, hDc.weaken (fun _ _ _ _ => trivial), by rw [hU]; exact hZc.warm hW⟩⟩ rfl rfl hl.1 rfl (lv_room (Nat.le_of_ble_eq_true rfl)) dL_law_774 ⟨Nat.le_of_ble_eq_true rfl, Nat.le_of_ble_eq_true rfl⟩) hS (fun q _ h => hFc q h) hFc (fun r_4 u t H1 locs ht hvm hw hB hz1 hk1 hS => ?_)
  obtain ⟨hP1, hK1, hD1⟩ := hB
  rw [ht] at hP1
  have hK1 := va_K.moved hvm.symm hK1
  obtain ⟨hP, hD⟩ := va_join (wr := [(qm, .inl (cM, 12, .inr (.inr (.inr (.inr (fun _ => none)))))), (qt, .inl (cT, 4, .inr (.inr (.inr (.inr (fun _ => none)))))), (l2, .inr (1, [.int 0, .ref a0, .int 0])), (qd, .inl (cD, 1, .inr (.inr (.inr (.inl (fun _ => 0))))))]) (w1 := [(m0, .inr (12, [.int 1, .ref l1, .ref l2, .int 0, .int 0, .int 0, .long 0]))]) hP hD [2, 3] [0, 1, 4, 5] rfl rfl (by decide) (by decide) hk1 hFc hP1 hD1
  have hK := (hK.sub (tys' := [(cM, .object "Haltingale$Machine"), (cT, .object "Haltingale$Tag"), (cL, .long), (cD, .double)]) [0, 1, 2, 3] rfl).app hK1
  generalize H1 = H at hP hS ⊢
  have hP : va_P (dC, dI) vwCl [(qm, .inl (cM, 12, .inr (.inr (.inr (.inr (fun _ => none)))))), (qt, .inl (cT, 4, .inr (.inr (.inr (.inr (fun _ => none)))))), (l2, .inr (1, [.int 0, .ref a0, .int 0])), (qd, .inl (cD, 1, .inr (.inr (.inr (.inl (fun _ => 0)))))), (m0, .inr (12, [.int 1, .ref l1, .ref l2, .int 0, .int 0, .int 0, .long 0]))] H := hP
  have hD : va_D A [(qm, .inl (cM, 12, .inr (.inr (.inr (.inr (fun _ => none)))))), (qt, .inl (cT, 4, .inr (.inr (.inr (.inr (fun _ => none)))))), (l2, .inr (1, [.int 0, .ref a0, .int 0])), (qd, .inl (cD, 1, .inr (.inr (.inr (.inl (fun _ => 0)))))), (m0, .inr (12, [.int 1, .ref l1, .ref l2, .int 0, .int 0, .int 0, .long 0]))] := hD
  have hK : va_K (dC, dI) vwCl [(cM, .object "Haltingale$Machine"), (cT, .object "Haltingale$Tag"), (cL, .long), (cD, .double)] s := hK
  refine W.widen (k := 32) (n := 4330) (Nat.le_of_ble_eq_true rfl) (Nat.le_of_ble_eq_true rfl) ?_
  obtain rfl : r_4 = 0 := hw
  refine lv_istore (lv' := [(7, .int 0), (6, .int 1), (5, .int 0), (4, .ref qd), (3, .ref qo), (2, .ref m0), (1, .ref x0), (0, .ref b)]) hx hb dL_law_777 hl (by decide) rfl (fun ls hl => ?_)
  refine lv_aload_n hx hb dL_law_779 rfl (lv_at hl 5 rfl) ?_
  have hPc := hP.sub (ws' := [(m0, .inr (12, [.int 1, .ref l1, .ref l2, .int 0, .int 0, .int 0, .long 0]))]) [4] rfl
  have hDc := hD.sub (ws' := [(m0, .inr (12, [.int 1, .ref l1, .ref l2, .int 0, .int 0, .int 0, .long 0]))]) [4] (by decide) rfl
  have hKc := hK.sub (tys' := []) [] rfl
  have hFc := va_free (wc := [(m0, .inr (12, [.int 1, .ref l1, .ref l2, .int 0, .int 0, .int 0, .long 0]))]) hD hS hA [4] rfl
  have hZc := ((hZ.kept hS.2.1).narrow hFc)
  refine va_calli (va_runV (As := []) (rest := []) ⟨hx, hb, hml, hown, hts⟩ (c_X10_thrown l hnt dC dI a0 m0 l1 l2 1 H.size ) (cwV 0 hts (goodIn_of _ (by decide +kernel)) rfl rfl rfl (by decide +kernel) ⟨Nat.le_of_ble_eq_true rfl, Nat.le_of_ble_eq_true rfl⟩) ⟨fun a U g mk q => by obtain ⟨q0, q1, qP, qK, qD, qZ⟩ := q; exact ⟨q0, q1, qP, va_K.moved (u := U) (U := U.calling g mk a) (Vm.Alike.refl U.vm) qK, qD, qZ.call⟩, va_recv hKc hPc (ci := 12) (q0 := 0) rfl rfl, fun U hU hW => ⟨rfl, by rw [hU], by rw [hU]; exact hPc, va_K.moved hW.alike hKc, hDc.weaken (fun _ _ _ _ => trivial), by rw [hU]; exact hZc.warm hW⟩⟩ rfl rfl hl.1 rfl (lv_room (Nat.le_of_ble_eq_true rfl)) dL_law_780 ⟨Nat.le_of_ble_eq_true rfl, Nat.le_of_ble_eq_true rfl⟩) hS (fun q _ h => hFc q h) hFc (fun r_5 u t H1 locs ht hvm hw hB hz1 hk1 hS => ?_)
  obtain ⟨hP1, hK1, hD1⟩ := hB
  rw [ht] at hP1
  have hK1 := va_K.moved hvm.symm hK1
  obtain ⟨hP, hD⟩ := va_join (wr := [(qm, .inl (cM, 12, .inr (.inr (.inr (.inr (fun _ => none)))))), (qt, .inl (cT, 4, .inr (.inr (.inr (.inr (fun _ => none)))))), (l2, .inr (1, [.int 0, .ref a0, .int 0])), (qd, .inl (cD, 1, .inr (.inr (.inr (.inl (fun _ => 0))))))]) (w1 := []) hP hD [4] [0, 1, 2, 3] rfl rfl (by decide) (by decide) hk1 hFc hP1 hD1
  have hK := (hK.sub (tys' := [(cM, .object "Haltingale$Machine"), (cT, .object "Haltingale$Tag"), (cL, .long), (cD, .double)]) [0, 1, 2, 3] rfl).app hK1
  generalize H1 = H at hP hS ⊢
  have hP : va_P (dC, dI) vwCl [(qm, .inl (cM, 12, .inr (.inr (.inr (.inr (fun _ => none)))))), (qt, .inl (cT, 4, .inr (.inr (.inr (.inr (fun _ => none)))))), (l2, .inr (1, [.int 0, .ref a0, .int 0])), (qd, .inl (cD, 1, .inr (.inr (.inr (.inl (fun _ => 0))))))] H := hP
  have hD : va_D A [(qm, .inl (cM, 12, .inr (.inr (.inr (.inr (fun _ => none)))))), (qt, .inl (cT, 4, .inr (.inr (.inr (.inr (fun _ => none)))))), (l2, .inr (1, [.int 0, .ref a0, .int 0])), (qd, .inl (cD, 1, .inr (.inr (.inr (.inl (fun _ => 0))))))] := hD
  have hK : va_K (dC, dI) vwCl [(cM, .object "Haltingale$Machine"), (cT, .object "Haltingale$Tag"), (cL, .long), (cD, .double)] s := hK
  refine W.widen (k := 32) (n := 4330) (Nat.le_of_ble_eq_true rfl) (Nat.le_of_ble_eq_true rfl) ?_
  obtain rfl : r_5 = 1 := hw
  refine lv_iload hx hb dL_law_783 (lv_at hl 1 rfl) ?_
  refine lv_icmp_eq (tgt := 790) hx hb dL_law_785 (by decide) (fun c_6 => ?_) (fun c_6 => ?_)
  rotate_left
  · (first | exact absurd c_6 (by decide) | exact absurd (by decide) c_6)
  refine lv_iload hx hb dL_law_790 (lv_at hl 1 rfl) ?_
  refine lv_if_ne (tgt := 807) hx hb dL_law_792 (by decide) (fun c_7 => ?_) (fun c_7 => ?_)
  rotate_left
  · (first | exact absurd c_7 (by decide) | exact absurd (by decide) c_7)
  refine lv_goto (tgt := 1806) hx hb dL_law_807 (by decide) ?_
  refine lv_iinc (v := 7) (lv' := [(5, .int 7), (7, .int 0), (6, .int 1), (4, .ref qd), (3, .ref qo), (2, .ref m0), (1, .ref x0), (0, .ref b)]) hx hb dL_law_1806 hl (k := 2) rfl (by decide) (by decide) rfl (fun ls hl => ?_)
  refine lv_goto (tgt := 28) hx hb dL_law_1809 (by decide) ?_
  refine lv_iload hx hb dL_law_28 (lv_at hl 0 rfl) ?_
  refine lv_aload_n hx hb dL_law_30 rfl (lv_at hl 7 rfl) ?_
  refine va_slen hx hb hX hbl hbA hS dL_law_31 ?_
  refine lv_topi (fun x_8 ex_8 => ?_)
  obtain rfl : x_8 = 7 := ex_8.trans (by decide)
  refine lv_bipush (v := 7) hx hb dL_law_32 (by decide) ?_
  refine lv_isub hx hb dL_law_34 ?_
  refine lv_topi (fun x_9 ex_9 => ?_)
  obtain rfl : x_9 = 0 := ex_9.trans (by decide)
  refine lv_icmp_gt (tgt := 1812) hx hb dL_law_35 (by decide) (fun c_10 => ?_) (fun c_10 => ?_)
  rotate_left
  · (first | exact absurd c_10 (by decide) | exact absurd (by decide) c_10)
  refine lv_iconst (v := 1) hx hb dL_law_1812 (by decide) ?_
  refine va_forget (fun q hq => hA2 _ (hS.2.2 q hq)) ?_
  refine W.widen (k := room_1.cells) (n := room_1.slots) (Nat.le_of_ble_eq_true rfl) (Nat.le_of_ble_eq_true rfl) ?_
  exact lw_ret0 hx hb hr hlocks dL_law_1813

set_option maxHeartbeats 4000000 in
set_option maxRecDepth 100000 in
/-- the law, case 8 -/
theorem law_8 {p : Program} {l : Launch} (hnt : l.stackTraces = false) {e : Env} {s : State} {m : MethodId} {below : List Frame} {meth : Method} {c : Code} {dC : Nat → ClassId} {dI : Nat → Nat → Nat} {a0 b : Nat} {xs : Nat → Int32} (C0 : lw_At p s m meth c b 7 xs) {A : Nat → Prop} (hA : ∀ q : Nat, s.heap.size ≤ q → A q) (hA2 : ∀ q : Nat, A q → s.heap.size ≤ q) (hZ : zB a0 A s s.heap) {x0 : Nat} {qm : Nat} {qt : Nat} {qw : Nat} {qc : Nat} {qb : Nat} {qg : Nat} {m0 : Nat} {l1 : Nat} {l2 : Nat} {qo : Nat} {qd : Nat} {cM : ClassId} {cT : ClassId} {cL : ClassId} {cD : ClassId} {H : Heap} {locs : List Loc} (hK : va_K (dC, dI) vwCl [(cM, .object "Haltingale$Machine"), (cT, .object "Haltingale$Tag"), (cL, .long), (cD, .double)] s) (hP : va_P (dC, dI) vwCl [(x0, .inr (9, [.ref qm, .ref qt, .ref qw, .ref qc, .ref qb, .ref qg, .int 0, .int 0, .int 0, .int 0, .int 0])), (qm, .inl (cM, 12, .inr (.inr (.inr (.inr (fun _ => none)))))), (qt, .inl (cT, 4, .inr (.inr (.inr (.inr (fun _ => none)))))), (m0, .inr (12, [.int 0, .ref l1, .ref l2, .int 0, .int 0, .int 0, .long 0])), (l1, .inr (1, [.int 0, .ref a0, .int 0])), (l2, .inr (1, [.int 0, .ref a0, .int 0])), (qo, .inl (cL, 1, .inr (.inl (fun _ => 0)))), (qd, .inl (cD, 1, .inr (.inr (.inr (.inl (fun _ => 0))))))] H) (hD : va_D A [(x0, .inr (9, [.ref qm, .ref qt, .ref qw, .ref qc, .ref qb, .ref qg, .int 0, .int 0, .int 0, .int 0, .int 0])), (qm, .inl (cM, 12, .inr (.inr (.inr (.inr (fun _ => none)))))), (qt, .inl (cT, 4, .inr (.inr (.inr (.inr (fun _ => none)))))), (m0, .inr (12, [.int 0, .ref l1, .ref l2, .int 0, .int 0, .int 0, .long 0])), (l1, .inr (1, [.int 0, .ref a0, .int 0])), (l2, .inr (1, [.int 0, .ref a0, .int 0])), (qo, .inl (cL, 1, .inr (.inl (fun _ => 0)))), (qd, .inl (cD, 1, .inr (.inr (.inr (.inl (fun _ => 0))))))]) (hS : va_S A s.heap H locs) {ls : Array Slot} (hl : lv_has ls 10 [(5, .int 0), (4, .ref qd), (3, .ref qo), (2, .ref m0), (1, .ref x0), (0, .ref b)])  : W p l e room_1 s m #[Value.ref b] below meth c H locs 31 4324 (lw_Z below #[Value.ref b] s) (F0 m 810 ls []) := by
  obtain ⟨hx, hb, hr, hml, hown, hts0, hX, hbl, hlocks, hgv⟩ := C0
  have hts : ∀ w ∈ zs_law, w.before #[Value.ref b] s = true := fun w h => hts0 w (zs_law_in w h)
  have hbA : ¬ A b := fun h => absurd (hA2 b h) (Nat.not_le.mpr hbl)
  refine lv_aload_n hx hb dL_law_810 rfl (lv_at hl 4 rfl) ?_
  refine lv_aload_n hx hb dL_law_811 rfl (lv_at hl 5 rfl) ?_
  refine lv_iload hx hb dL_law_812 (lv_at hl 0 rfl) ?_
  refine lv_iconst (v := 1) hx hb dL_law_814 (by decide) ?_
  refine lv_iadd hx hb dL_law_815 ?_
  refine lv_topi (fun x_1 ex_1 => ?_)
  obtain rfl : x_1 = 1 := ex_1.trans (by decide)
  refine va_sld hx hb hX hbl hbA hS (by unfold vp_in; decide) dL_law_816 ?_
  refine lv_aload_n hx hb dL_law_817 rfl (lv_at hl 5 rfl) ?_
  refine lv_iload hx hb dL_law_818 (lv_at hl 0 rfl) ?_
  refine lv_iconst (v := 2) hx hb dL_law_820 (by decide) ?_
  refine lv_iadd hx hb dL_law_821 ?_
  refine lv_topi (fun x_2 ex_2 => ?_)
  obtain rfl : x_2 = 2 := ex_2.trans (by decide)
  refine va_sld hx hb hX hbl hbA hS (by unfold vp_in; decide) dL_law_822 ?_
  refine lv_aload_n hx hb dL_law_823 rfl (lv_at hl 5 rfl) ?_
  refine lv_iload hx hb dL_law_824 (lv_at hl 0 rfl) ?_
  refine lv_iconst (v := 3) hx hb dL_law_826 (by decide) ?_
  refine lv_iadd hx hb dL_law_827 ?_
  refine lv_topi (fun x_3 ex_3 => ?_)
  obtain rfl : x_3 = 3 := ex_3.trans (by decide)
  refine va_sld hx hb hX hbl hbA hS (by unfold vp_in; decide) dL_law_828 ?_
  refine lv_aload_n hx hb dL_law_829 rfl (lv_at hl 5 rfl) ?_
  refine lv_iload hx hb dL_law_830 (lv_at hl 0 rfl) ?_
  refine lv_iconst (v := 4) hx hb dL_law_832 (by decide) ?_
  refine lv_iadd hx hb dL_law_833 ?_
  refine lv_topi (fun x_4 ex_4 => ?_)
  obtain rfl : x_4 = 4 := ex_4.trans (by decide)
  refine va_sld hx hb hX hbl hbA hS (by unfold vp_in; decide) dL_law_834 ?_
  refine lv_aload_n hx hb dL_law_835 rfl (lv_at hl 2 rfl) ?_
  have hPc := hP.sub (ws' := [(x0, .inr (9, [.ref qm, .ref qt, .ref qw, .ref qc, .ref qb, .ref qg, .int 0, .int 0, .int 0, .int 0, .int 0])), (qo, .inl (cL, 1, .inr (.inl (fun _ => 0))))]) [0, 6] rfl
  have hDc := hD.sub (ws' := [(x0, .inr (9, [.ref qm, .ref qt, .ref qw, .ref qc, .ref qb, .ref qg, .int 0, .int 0, .int 0, .int 0, .int 0])), (qo, .inl (cL, 1, .inr (.inl (fun _ => 0))))]) [0, 6] (by decide) rfl
  have hKc := hK.sub (tys' := [(cL, .long)]) [2] rfl
  have hFc := va_free (wc := [(x0, .inr (9, [.ref qm, .ref qt, .ref qw, .ref qc, .ref qb, .ref qg, .int 0, .int 0, .int 0, .int 0, .int 0])), (qo, .inl (cL, 1, .inr (.inl (fun _ => 0))))]) hD hS hA [0, 6] rfl
  have hZc := ((hZ.kept hS.2.1).narrow hFc)
  refine va_calli (vx_runSW (As := [.ref x0, .int (xs ((1 : Int32).toNatClampNeg)), .int (xs ((2 : Int32).toNatClampNeg)), .int (xs ((3 : Int32).toNatClampNeg)), .int (xs ((4 : Int32).toNatClampNeg)), .ref qo]) (rest := []) ⟨hx, hb, hml, hown, hts⟩ (c_L_cell l hnt dC dI a0 x0 qm qt qw qc qb qg qo cL ((xs ((1 : Int32).toNatClampNeg))) ((xs ((2 : Int32).toNatClampNeg))) ((xs ((3 : Int32).toNatClampNeg))) ((xs ((4 : Int32).toNatClampNeg))) H.size ) (vx_cwSW 6 hts (goodIn_of _ (by decide +kernel)) rfl rfl rfl (by decide +kernel) ⟨Nat.le_of_ble_eq_true rfl, Nat.le_of_ble_eq_true rfl⟩) ⟨fun a U g mk q => by obtain ⟨q0, q1, qP, qK, qD, qZ⟩ := q; exact ⟨q0, q1, qP, va_K.moved (u := U) (U := U.calling g mk a) (Vm.Alike.refl U.vm) qK, qD, qZ.call⟩, fun U hU hW => ⟨rfl, by rw [hU], by rw [hU]; exact hPc, va_K.moved hW.alike hKc, hDc.weaken (fun _ _ _ _ => trivial), by rw [hU]; exact hZc.warm hW⟩⟩ rfl rfl hl.1 rfl (lv_room (Nat.le_of_ble_eq_true rfl)) dL_law_836 ⟨Nat.le_of_ble_eq_true rfl, Nat.le_of_ble_eq_true rfl⟩) hS (fun q _ h => hFc q h) hFc (fun r_5 u t H1 locs ht hvm hw hB hz1 hk1 hS => ?_)
  obtain ⟨hP1, hK1, hD1⟩ := hB
  rw [ht] at hP1
  have hK1 := va_K.moved hvm.symm hK1
  obtain ⟨hP, hD⟩ := va_join (wr := [(qm, .inl (cM, 12, .inr (.inr (.inr (.inr (fun _ => none)))))), (qt, .inl (cT, 4, .inr (.inr (.inr (.inr (fun _ => none)))))), (m0, .inr (12, [.int 0, .ref l1, .ref l2, .int 0, .int 0, .int 0, .long 0])), (l1, .inr (1, [.int 0, .ref a0, .int 0])), (l2, .inr (1, [.int 0, .ref a0, .int 0])), (qd, .inl (cD, 1, .inr (.inr (.inr (.inl (fun _ => 0))))))]) (w1 := []) hP hD [0, 6] [1, 2, 3, 4, 5, 7] rfl rfl (by decide) (by decide) hk1 hFc hP1 hD1
  have hK := (hK.sub (tys' := [(cM, .object "Haltingale$Machine"), (cT, .object "Haltingale$Tag"), (cL, .long), (cD, .double)]) [0, 1, 2, 3] rfl).app hK1
  generalize H1 = H at hP hS ⊢
  have hP : va_P (dC, dI) vwCl [(qm, .inl (cM, 12, .inr (.inr (.inr (.inr (fun _ => none)))))), (qt, .inl (cT, 4, .inr (.inr (.inr (.inr (fun _ => none)))))), (m0, .inr (12, [.int 0, .ref l1, .ref l2, .int 0, .int 0, .int 0, .long 0])), (l1, .inr (1, [.int 0, .ref a0, .int 0])), (l2, .inr (1, [.int 0, .ref a0, .int 0])), (qd, .inl (cD, 1, .inr (.inr (.inr (.inl (fun _ => 0))))))] H := hP
  have hD : va_D A [(qm, .inl (cM, 12, .inr (.inr (.inr (.inr (fun _ => none)))))), (qt, .inl (cT, 4, .inr (.inr (.inr (.inr (fun _ => none)))))), (m0, .inr (12, [.int 0, .ref l1, .ref l2, .int 0, .int 0, .int 0, .long 0])), (l1, .inr (1, [.int 0, .ref a0, .int 0])), (l2, .inr (1, [.int 0, .ref a0, .int 0])), (qd, .inl (cD, 1, .inr (.inr (.inr (.inl (fun _ => 0))))))] := hD
  have hK : va_K (dC, dI) vwCl [(cM, .object "Haltingale$Machine"), (cT, .object "Haltingale$Tag"), (cL, .long), (cD, .double)] s := hK
  refine W.widen (k := 32) (n := 4330) (Nat.le_of_ble_eq_true rfl) (Nat.le_of_ble_eq_true rfl) ?_
  obtain rfl : r_5 = 1 := hw
  refine lv_istore (lv' := [(6, .int 1), (5, .int 0), (4, .ref qd), (3, .ref qo), (2, .ref m0), (1, .ref x0), (0, .ref b)]) hx hb dL_law_839 hl (by decide) rfl (fun ls hl => ?_)
  refine lv_aload_n hx hb dL_law_841 rfl (lv_at hl 4 rfl) ?_
  refine lv_aload_n hx hb dL_law_842 rfl (lv_at hl 6 rfl) ?_
  refine lv_iload hx hb dL_law_843 (lv_at hl 1 rfl) ?_
  refine lv_iconst (v := 1) hx hb dL_law_845 (by decide) ?_
  refine lv_iadd hx hb dL_law_846 ?_
  refine lv_topi (fun x_6 ex_6 => ?_)
  obtain rfl : x_6 = 1 := ex_6.trans (by decide)
  refine va_sld hx hb hX hbl hbA hS (by unfold vp_in; decide) dL_law_847 ?_
  refine lv_aload_n hx hb dL_law_848 rfl (lv_at hl 6 rfl) ?_
  refine lv_iload hx hb dL_law_849 (lv_at hl 1 rfl) ?_
  refine lv_iconst (v := 2) hx hb dL_law_851 (by decide) ?_
  refine lv_iadd hx hb dL_law_852 ?_
  refine lv_topi (fun x_7 ex_7 => ?_)
  obtain rfl : x_7 = 2 := ex_7.trans (by decide)
  refine va_sld hx hb hX hbl hbA hS (by unfold vp_in; decide) dL_law_853 ?_
  refine lv_aload_n hx hb dL_law_854 rfl (lv_at hl 6 rfl) ?_
  refine lv_iload hx hb dL_law_855 (lv_at hl 1 rfl) ?_
  refine lv_iconst (v := 3) hx hb dL_law_857 (by decide) ?_
  refine lv_iadd hx hb dL_law_858 ?_
  refine lv_topi (fun x_8 ex_8 => ?_)
  obtain rfl : x_8 = 3 := ex_8.trans (by decide)
  refine va_sld hx hb hX hbl hbA hS (by unfold vp_in; decide) dL_law_859 ?_
  refine lv_aload_n hx hb dL_law_860 rfl (lv_at hl 6 rfl) ?_
  refine lv_iload hx hb dL_law_861 (lv_at hl 1 rfl) ?_
  refine lv_iconst (v := 4) hx hb dL_law_863 (by decide) ?_
  refine lv_iadd hx hb dL_law_864 ?_
  refine lv_topi (fun x_9 ex_9 => ?_)
  obtain rfl : x_9 = 4 := ex_9.trans (by decide)
  refine va_sld hx hb hX hbl hbA hS (by unfold vp_in; decide) dL_law_865 ?_
  have hPc := hP.sub (ws' := [(m0, .inr (12, [.int 0, .ref l1, .ref l2, .int 0, .int 0, .int 0, .long 0])), (l1, .inr (1, [.int 0, .ref a0, .int 0]))]) [2, 3] rfl
  have hDc := hD.sub (ws' := [(m0, .inr (12, [.int 0, .ref l1, .ref l2, .int 0, .int 0, .int 0, .long 0])), (l1, .inr (1, [.int 0, .ref a0, .int 0]))]) [2, 3] (by decide) rfl
  have hKc := hK.sub (tys' := []) [] rfl
  have hFc := va_free (wc := [(m0, .inr (12, [.int 0, .ref l1, .ref l2, .int 0, .int 0, .int 0, .long 0])), (l1, .inr (1, [.int 0, .ref a0, .int 0]))]) hD hS hA [2, 3] rfl
  have hZc := ((hZ.kept hS.2.1).narrow hFc)
  refine va_calli (va_runV (As := [.int (xs ((1 : Int32).toNatClampNeg)), .int (xs ((2 : Int32).toNatClampNeg)), .int (xs ((3 : Int32).toNatClampNeg)), .int (xs ((4 : Int32).toNatClampNeg))]) (rest := []) ⟨hx, hb, hml, hown, hts⟩ (c_X10_cell l hnt dC dI a0 m0 l1 l2 ((xs ((1 : Int32).toNatClampNeg))) ((xs ((2 : Int32).toNatClampNeg))) ((xs ((3 : Int32).toNatClampNeg))) ((xs ((4 : Int32).toNatClampNeg))) H.size ) (cwV 4 hts (goodIn_of _ (by decide +kernel)) rfl rfl rfl (by decide +kernel) ⟨Nat.le_of_ble_eq_true rfl, Nat.le_of_ble_eq_true rfl⟩) ⟨fun a U g mk q => by obtain ⟨q0, q1, qP, qK, qD, qZ⟩ := q; exact ⟨q0, q1, qP, va_K.moved (u := U) (U := U.calling g mk a) (Vm.Alike.refl U.vm) qK, qD, qZ.call⟩, va_recv hKc hPc (ci := 12) (q0 := 0) rfl rfl, fun U hU hW => ⟨rfl, by rw [hU], by rw [hU]; exact hPc, va_K.moved hW.alike hKc, hDc.weaken (fun _ _ _ _ => trivial), by rw [hU]; exact hZc.warm hW⟩⟩ rfl rfl hl.1 rfl (lv_room (Nat.le_of_ble_eq_true rfl)) dL_law_866 ⟨Nat.le_of_ble_eq_true rfl, Nat.le_of_ble_eq_true rfl⟩) hS (fun q _ h => hFc q h) hFc (fun r_10 u t H1 locs ht hvm hw hB hz1 hk1 hS => ?_)
  obtain ⟨hP1, hK1, hD1⟩ := hB
  rw [ht] at hP1
  have hK1 := va_K.moved hvm.symm hK1
  obtain ⟨hP, hD⟩ := va_join (wr := [(qm, .inl (cM, 12, .inr (.inr (.inr (.inr (fun _ => none)))))), (qt, .inl (cT, 4, .inr (.inr (.inr (.inr (fun _ => none)))))), (l2, .inr (1, [.int 0, .ref a0, .int 0])), (qd, .inl (cD, 1, .inr (.inr (.inr (.inl (fun _ => 0))))))]) (w1 := [(m0, .inr (12, [.int 1, .ref l1, .ref l2, .int 0, .int 0, .int 0, .long 0]))]) hP hD [2, 3] [0, 1, 4, 5] rfl rfl (by decide) (by decide) hk1 hFc hP1 hD1
  have hK := (hK.sub (tys' := [(cM, .object "Haltingale$Machine"), (cT, .object "Haltingale$Tag"), (cL, .long), (cD, .double)]) [0, 1, 2, 3] rfl).app hK1
  generalize H1 = H at hP hS ⊢
  have hP : va_P (dC, dI) vwCl [(qm, .inl (cM, 12, .inr (.inr (.inr (.inr (fun _ => none)))))), (qt, .inl (cT, 4, .inr (.inr (.inr (.inr (fun _ => none)))))), (l2, .inr (1, [.int 0, .ref a0, .int 0])), (qd, .inl (cD, 1, .inr (.inr (.inr (.inl (fun _ => 0)))))), (m0, .inr (12, [.int 1, .ref l1, .ref l2, .int 0, .int 0, .int 0, .long 0]))] H := hP
  have hD : va_D A [(qm, .inl (cM, 12, .inr (.inr (.inr (.inr (fun _ => none)))))), (qt, .inl (cT, 4, .inr (.inr (.inr (.inr (fun _ => none)))))), (l2, .inr (1, [.int 0, .ref a0, .int 0])), (qd, .inl (cD, 1, .inr (.inr (.inr (.inl (fun _ => 0)))))), (m0, .inr (12, [.int 1, .ref l1, .ref l2, .int 0, .int 0, .int 0, .long 0]))] := hD
  have hK : va_K (dC, dI) vwCl [(cM, .object "Haltingale$Machine"), (cT, .object "Haltingale$Tag"), (cL, .long), (cD, .double)] s := hK
  refine W.widen (k := 32) (n := 4330) (Nat.le_of_ble_eq_true rfl) (Nat.le_of_ble_eq_true rfl) ?_
  obtain rfl : r_10 = 0 := hw
  refine lv_istore (lv' := [(7, .int 0), (6, .int 1), (5, .int 0), (4, .ref qd), (3, .ref qo), (2, .ref m0), (1, .ref x0), (0, .ref b)]) hx hb dL_law_869 hl (by decide) rfl (fun ls hl => ?_)
  refine lv_aload_n hx hb dL_law_871 rfl (lv_at hl 5 rfl) ?_
  have hPc := hP.sub (ws' := [(m0, .inr (12, [.int 1, .ref l1, .ref l2, .int 0, .int 0, .int 0, .long 0]))]) [4] rfl
  have hDc := hD.sub (ws' := [(m0, .inr (12, [.int 1, .ref l1, .ref l2, .int 0, .int 0, .int 0, .long 0]))]) [4] (by decide) rfl
  have hKc := hK.sub (tys' := []) [] rfl
  have hFc := va_free (wc := [(m0, .inr (12, [.int 1, .ref l1, .ref l2, .int 0, .int 0, .int 0, .long 0]))]) hD hS hA [4] rfl
  have hZc := ((hZ.kept hS.2.1).narrow hFc)
  refine va_calli (va_runV (As := []) (rest := []) ⟨hx, hb, hml, hown, hts⟩ (c_X10_thrown l hnt dC dI a0 m0 l1 l2 1 H.size ) (cwV 0 hts (goodIn_of _ (by decide +kernel)) rfl rfl rfl (by decide +kernel) ⟨Nat.le_of_ble_eq_true rfl, Nat.le_of_ble_eq_true rfl⟩) ⟨fun a U g mk q => by obtain ⟨q0, q1, qP, qK, qD, qZ⟩ := q; exact ⟨q0, q1, qP, va_K.moved (u := U) (U := U.calling g mk a) (Vm.Alike.refl U.vm) qK, qD, qZ.call⟩, va_recv hKc hPc (ci := 12) (q0 := 0) rfl rfl, fun U hU hW => ⟨rfl, by rw [hU], by rw [hU]; exact hPc, va_K.moved hW.alike hKc, hDc.weaken (fun _ _ _ _ => trivial), by rw [hU]; exact hZc.warm hW⟩⟩ rfl rfl hl.1 rfl (lv_room (Nat.le_of_ble_eq_true rfl)) dL_law_872 ⟨Nat.le_of_ble_eq_true rfl, Nat.le_of_ble_eq_true rfl⟩) hS (fun q _ h => hFc q h) hFc (fun r_11 u t H1 locs ht hvm hw hB hz1 hk1 hS => ?_)
  obtain ⟨hP1, hK1, hD1⟩ := hB
  rw [ht] at hP1
  have hK1 := va_K.moved hvm.symm hK1
  obtain ⟨hP, hD⟩ := va_join (wr := [(qm, .inl (cM, 12, .inr (.inr (.inr (.inr (fun _ => none)))))), (qt, .inl (cT, 4, .inr (.inr (.inr (.inr (fun _ => none)))))), (l2, .inr (1, [.int 0, .ref a0, .int 0])), (qd, .inl (cD, 1, .inr (.inr (.inr (.inl (fun _ => 0))))))]) (w1 := []) hP hD [4] [0, 1, 2, 3] rfl rfl (by decide) (by decide) hk1 hFc hP1 hD1
  have hK := (hK.sub (tys' := [(cM, .object "Haltingale$Machine"), (cT, .object "Haltingale$Tag"), (cL, .long), (cD, .double)]) [0, 1, 2, 3] rfl).app hK1
  generalize H1 = H at hP hS ⊢
  have hP : va_P (dC, dI) vwCl [(qm, .inl (cM, 12, .inr (.inr (.inr (.inr (fun _ => none)))))), (qt, .inl (cT, 4, .inr (.inr (.inr (.inr (fun _ => none)))))), (l2, .inr (1, [.int 0, .ref a0, .int 0])), (qd, .inl (cD, 1, .inr (.inr (.inr (.inl (fun _ => 0))))))] H := hP
  have hD : va_D A [(qm, .inl (cM, 12, .inr (.inr (.inr (.inr (fun _ => none)))))), (qt, .inl (cT, 4, .inr (.inr (.inr (.inr (fun _ => none)))))), (l2, .inr (1, [.int 0, .ref a0, .int 0])), (qd, .inl (cD, 1, .inr (.inr (.inr (.inl (fun _ => 0))))))] := hD
  have hK : va_K (dC, dI) vwCl [(cM, .object "Haltingale$Machine"), (cT, .object "Haltingale$Tag"), (cL, .long), (cD, .double)] s := hK
  refine W.widen (k := 32) (n := 4330) (Nat.le_of_ble_eq_true rfl) (Nat.le_of_ble_eq_true rfl) ?_
  obtain rfl : r_11 = 1 := hw
  refine lv_iload hx hb dL_law_875 (lv_at hl 1 rfl) ?_
  refine lv_icmp_eq (tgt := 882) hx hb dL_law_877 (by decide) (fun c_12 => ?_) (fun c_12 => ?_)
  rotate_left
  · (first | exact absurd c_12 (by decide) | exact absurd (by decide) c_12)
  refine lv_iload hx hb dL_law_882 (lv_at hl 1 rfl) ?_
  refine lv_if_ne (tgt := 899) hx hb dL_law_884 (by decide) (fun c_13 => ?_) (fun c_13 => ?_)
  rotate_left
  · (first | exact absurd c_13 (by decide) | exact absurd (by decide) c_13)
  refine lv_goto (tgt := 1806) hx hb dL_law_899 (by decide) ?_
  refine lv_iinc (v := 7) (lv' := [(5, .int 7), (7, .int 0), (6, .int 1), (4, .ref qd), (3, .ref qo), (2, .ref m0), (1, .ref x0), (0, .ref b)]) hx hb dL_law_1806 hl (k := 2) rfl (by decide) (by decide) rfl (fun ls hl => ?_)
  refine lv_goto (tgt := 28) hx hb dL_law_1809 (by decide) ?_
  refine lv_iload hx hb dL_law_28 (lv_at hl 0 rfl) ?_
  refine lv_aload_n hx hb dL_law_30 rfl (lv_at hl 7 rfl) ?_
  refine va_slen hx hb hX hbl hbA hS dL_law_31 ?_
  refine lv_topi (fun x_14 ex_14 => ?_)
  obtain rfl : x_14 = 7 := ex_14.trans (by decide)
  refine lv_bipush (v := 7) hx hb dL_law_32 (by decide) ?_
  refine lv_isub hx hb dL_law_34 ?_
  refine lv_topi (fun x_15 ex_15 => ?_)
  obtain rfl : x_15 = 0 := ex_15.trans (by decide)
  refine lv_icmp_gt (tgt := 1812) hx hb dL_law_35 (by decide) (fun c_16 => ?_) (fun c_16 => ?_)
  rotate_left
  · (first | exact absurd c_16 (by decide) | exact absurd (by decide) c_16)
  refine lv_iconst (v := 1) hx hb dL_law_1812 (by decide) ?_
  refine va_forget (fun q hq => hA2 _ (hS.2.2 q hq)) ?_
  refine W.widen (k := room_1.cells) (n := room_1.slots) (Nat.le_of_ble_eq_true rfl) (Nat.le_of_ble_eq_true rfl) ?_
  exact lw_ret0 hx hb hr hlocks dL_law_1813

set_option maxHeartbeats 4000000 in
set_option maxRecDepth 100000 in
/-- the law, case 9 -/
theorem law_9 {p : Program} {l : Launch} (hnt : l.stackTraces = false) {e : Env} {s : State} {m : MethodId} {below : List Frame} {meth : Method} {c : Code} {dC : Nat → ClassId} {dI : Nat → Nat → Nat} {a0 b : Nat} {xs : Nat → Int32} (C0 : lw_At p s m meth c b 7 xs) {A : Nat → Prop} (hA : ∀ q : Nat, s.heap.size ≤ q → A q) (hA2 : ∀ q : Nat, A q → s.heap.size ≤ q) (hZ : zB a0 A s s.heap) {x0 : Nat} {qm : Nat} {qt : Nat} {qw : Nat} {qc : Nat} {qb : Nat} {qg : Nat} {m0 : Nat} {l1 : Nat} {l2 : Nat} {qo : Nat} {qd : Nat} {cM : ClassId} {cT : ClassId} {cL : ClassId} {cD : ClassId} {H : Heap} {locs : List Loc} (hK : va_K (dC, dI) vwCl [(cM, .object "Haltingale$Machine"), (cT, .object "Haltingale$Tag"), (cL, .long), (cD, .double)] s) (hP : va_P (dC, dI) vwCl [(x0, .inr (9, [.ref qm, .ref qt, .ref qw, .ref qc, .ref qb, .ref qg, .int 0, .int 0, .int 0, .int 0, .int 0])), (qm, .inl (cM, 12, .inr (.inr (.inr (.inr (fun _ => none)))))), (qt, .inl (cT, 4, .inr (.inr (.inr (.inr (fun _ => none)))))), (m0, .inr (12, [.int 0, .ref l1, .ref l2, .int 0, .int 0, .int 0, .long 0])), (l1, .inr (1, [.int 0, .ref a0, .int 0])), (l2, .inr (1, [.int 0, .ref a0, .int 0])), (qo, .inl (cL, 1, .inr (.inl (fun _ => 0)))), (qd, .inl (cD, 1, .inr (.inr (.inr (.inl (fun _ => 0))))))] H) (hD : va_D A [(x0, .inr (9, [.ref qm, .ref qt, .ref qw, .ref qc, .ref qb, .ref qg, .int 0, .int 0, .int 0, .int 0, .int 0])), (qm, .inl (cM, 12, .inr (.inr (.inr (.inr (fun _ => none)))))), (qt, .inl (cT, 4, .inr (.inr (.inr (.inr (fun _ => none)))))), (m0, .inr (12, [.int 0, .ref l1, .ref l2, .int 0, .int 0, .int 0, .long 0])), (l1, .inr (1, [.int 0, .ref a0, .int 0])), (l2, .inr (1, [.int 0, .ref a0, .int 0])), (qo, .inl (cL, 1, .inr (.inl (fun _ => 0)))), (qd, .inl (cD, 1, .inr (.inr (.inr (.inl (fun _ => 0))))))]) (hS : va_S A s.heap H locs) {ls : Array Slot} (hl : lv_has ls 10 [(5, .int 0), (4, .ref qd), (3, .ref qo), (2, .ref m0), (1, .ref x0), (0, .ref b)])  : W p l e room_1 s m #[Value.ref b] below meth c H locs 31 4324 (lw_Z below #[Value.ref b] s) (F0 m 902 ls []) := by
  obtain ⟨hx, hb, hr, hml, hown, hts0, hX, hbl, hlocks, hgv⟩ := C0
  have hts : ∀ w ∈ zs_law, w.before #[Value.ref b] s = true := fun w h => hts0 w (zs_law_in w h)
  have hbA : ¬ A b := fun h => absurd (hA2 b h) (Nat.not_le.mpr hbl)
  refine lv_aload_n hx hb dL_law_902 rfl (lv_at hl 4 rfl) ?_
  refine lv_aload_n hx hb dL_law_903 rfl (lv_at hl 5 rfl) ?_
  refine lv_iload hx hb dL_law_904 (lv_at hl 0 rfl) ?_
  refine lv_iconst (v := 1) hx hb dL_law_906 (by decide) ?_
  refine lv_iadd hx hb dL_law_907 ?_
  refine lv_topi (fun x_1 ex_1 => ?_)
  obtain rfl : x_1 = 1 := ex_1.trans (by decide)
  refine va_sld hx hb hX hbl hbA hS (by unfold vp_in; decide) dL_law_908 ?_
  refine lv_aload_n hx hb dL_law_909 rfl (lv_at hl 5 rfl) ?_
  refine lv_iload hx hb dL_law_910 (lv_at hl 0 rfl) ?_
  refine lv_iconst (v := 2) hx hb dL_law_912 (by decide) ?_
  refine lv_iadd hx hb dL_law_913 ?_
  refine lv_topi (fun x_2 ex_2 => ?_)
  obtain rfl : x_2 = 2 := ex_2.trans (by decide)
  refine va_sld hx hb hX hbl hbA hS (by unfold vp_in; decide) dL_law_914 ?_
  refine lv_aload_n hx hb dL_law_915 rfl (lv_at hl 2 rfl) ?_
  have hPc := hP.sub (ws' := [(x0, .inr (9, [.ref qm, .ref qt, .ref qw, .ref qc, .ref qb, .ref qg, .int 0, .int 0, .int 0, .int 0, .int 0])), (qo, .inl (cL, 1, .inr (.inl (fun _ => 0))))]) [0, 6] rfl
  have hDc := hD.sub (ws' := [(x0, .inr (9, [.ref qm, .ref qt, .ref qw, .ref qc, .ref qb, .ref qg, .int 0, .int 0, .int 0, .int 0, .int 0])), (qo, .inl (cL, 1, .inr (.inl (fun _ => 0))))]) [0, 6] (by decide) rfl
  have hKc := hK.sub (tys' := [(cL, .long)]) [2] rfl
  have hFc := va_free (wc := [(x0, .inr (9, [.ref qm, .ref qt, .ref qw, .ref qc, .ref qb, .ref qg, .int 0, .int 0, .int 0, .int 0, .int 0])), (qo, .inl (cL, 1, .inr (.inl (fun _ => 0))))]) hD hS hA [0, 6] rfl
  have hZc := ((hZ.kept hS.2.1).narrow hFc)
  refine va_calli (vx_runSW (As := [.ref x0, .int (xs ((1 : Int32).toNatClampNeg)), .int (xs ((2 : Int32).toNatClampNeg)), .ref qo]) (rest := []) ⟨hx, hb, hml, hown, hts⟩ (c_L_ofMachine l hnt dC dI a0 x0 qm qt qw qc qb qg qo cL ((xs ((1 : Int32).toNatClampNeg))) ((xs ((2 : Int32).toNatClampNeg))) H.size ) (vx_cwSW 4 hts (goodIn_of _ (by decide +kernel)) rfl rfl rfl (by decide +kernel) ⟨Nat.le_of_ble_eq_true rfl, Nat.le_of_ble_eq_true rfl⟩) ⟨fun a U g mk q => by obtain ⟨q0, q1, qP, qK, qD, qZ⟩ := q; exact ⟨q0, q1, qP, va_K.moved (u := U) (U := U.calling g mk a) (Vm.Alike.refl U.vm) qK, qD, qZ.call⟩, fun U hU hW => ⟨rfl, by rw [hU], by rw [hU]; exact hPc, va_K.moved hW.alike hKc, hDc.weaken (fun _ _ _ _ => trivial), by rw [hU]; exact hZc.warm hW⟩⟩ rfl rfl hl.1 rfl (lv_room (Nat.le_of_ble_eq_true rfl)) dL_law_916 ⟨Nat.le_of_ble_eq_true rfl, Nat.le_of_ble_eq_true rfl⟩) hS (fun q _ h => hFc q h) hFc (fun r_3 u t H1 locs ht hvm hw hB hz1 hk1 hS => ?_)
  obtain ⟨hP1, hK1, hD1⟩ := hB
  rw [ht] at hP1
  have hK1 := va_K.moved hvm.symm hK1
  obtain ⟨hP, hD⟩ := va_join (wr := [(qm, .inl (cM, 12, .inr (.inr (.inr (.inr (fun _ => none)))))), (qt, .inl (cT, 4, .inr (.inr (.inr (.inr (fun _ => none)))))), (m0, .inr (12, [.int 0, .ref l1, .ref l2, .int 0, .int 0, .int 0, .long 0])), (l1, .inr (1, [.int 0, .ref a0, .int 0])), (l2, .inr (1, [.int 0, .ref a0, .int 0])), (qd, .inl (cD, 1, .inr (.inr (.inr (.inl (fun _ => 0))))))]) (w1 := []) hP hD [0, 6] [1, 2, 3, 4, 5, 7] rfl rfl (by decide) (by decide) hk1 hFc hP1 hD1
  have hK := (hK.sub (tys' := [(cM, .object "Haltingale$Machine"), (cT, .object "Haltingale$Tag"), (cL, .long), (cD, .double)]) [0, 1, 2, 3] rfl).app hK1
  generalize H1 = H at hP hS ⊢
  have hP : va_P (dC, dI) vwCl [(qm, .inl (cM, 12, .inr (.inr (.inr (.inr (fun _ => none)))))), (qt, .inl (cT, 4, .inr (.inr (.inr (.inr (fun _ => none)))))), (m0, .inr (12, [.int 0, .ref l1, .ref l2, .int 0, .int 0, .int 0, .long 0])), (l1, .inr (1, [.int 0, .ref a0, .int 0])), (l2, .inr (1, [.int 0, .ref a0, .int 0])), (qd, .inl (cD, 1, .inr (.inr (.inr (.inl (fun _ => 0))))))] H := hP
  have hD : va_D A [(qm, .inl (cM, 12, .inr (.inr (.inr (.inr (fun _ => none)))))), (qt, .inl (cT, 4, .inr (.inr (.inr (.inr (fun _ => none)))))), (m0, .inr (12, [.int 0, .ref l1, .ref l2, .int 0, .int 0, .int 0, .long 0])), (l1, .inr (1, [.int 0, .ref a0, .int 0])), (l2, .inr (1, [.int 0, .ref a0, .int 0])), (qd, .inl (cD, 1, .inr (.inr (.inr (.inl (fun _ => 0))))))] := hD
  have hK : va_K (dC, dI) vwCl [(cM, .object "Haltingale$Machine"), (cT, .object "Haltingale$Tag"), (cL, .long), (cD, .double)] s := hK
  refine W.widen (k := 32) (n := 4330) (Nat.le_of_ble_eq_true rfl) (Nat.le_of_ble_eq_true rfl) ?_
  obtain rfl : r_3 = 1 := hw
  refine lv_istore (lv' := [(6, .int 1), (5, .int 0), (4, .ref qd), (3, .ref qo), (2, .ref m0), (1, .ref x0), (0, .ref b)]) hx hb dL_law_919 hl (by decide) rfl (fun ls hl => ?_)
  refine lv_aload_n hx hb dL_law_921 rfl (lv_at hl 4 rfl) ?_
  refine lv_aload_n hx hb dL_law_922 rfl (lv_at hl 6 rfl) ?_
  refine lv_iload hx hb dL_law_923 (lv_at hl 1 rfl) ?_
  refine lv_iconst (v := 1) hx hb dL_law_925 (by decide) ?_
  refine lv_iadd hx hb dL_law_926 ?_
  refine lv_topi (fun x_4 ex_4 => ?_)
  obtain rfl : x_4 = 1 := ex_4.trans (by decide)
  refine va_sld hx hb hX hbl hbA hS (by unfold vp_in; decide) dL_law_927 ?_
  refine lv_aload_n hx hb dL_law_928 rfl (lv_at hl 6 rfl) ?_
  refine lv_iload hx hb dL_law_929 (lv_at hl 1 rfl) ?_
  refine lv_iconst (v := 2) hx hb dL_law_931 (by decide) ?_
  refine lv_iadd hx hb dL_law_932 ?_
  refine lv_topi (fun x_5 ex_5 => ?_)
  obtain rfl : x_5 = 2 := ex_5.trans (by decide)
  refine va_sld hx hb hX hbl hbA hS (by unfold vp_in; decide) dL_law_933 ?_
  have hPc := hP.sub (ws' := [(m0, .inr (12, [.int 0, .ref l1, .ref l2, .int 0, .int 0, .int 0, .long 0])), (l1, .inr (1, [.int 0, .ref a0, .int 0]))]) [2, 3] rfl
  have hDc := hD.sub (ws' := [(m0, .inr (12, [.int 0, .ref l1, .ref l2, .int 0, .int 0, .int 0, .long 0])), (l1, .inr (1, [.int 0, .ref a0, .int 0]))]) [2, 3] (by decide) rfl
  have hKc := hK.sub (tys' := []) [] rfl
  have hFc := va_free (wc := [(m0, .inr (12, [.int 0, .ref l1, .ref l2, .int 0, .int 0, .int 0, .long 0])), (l1, .inr (1, [.int 0, .ref a0, .int 0]))]) hD hS hA [2, 3] rfl
  have hZc := ((hZ.kept hS.2.1).narrow hFc)
  refine va_calli (va_runV (As := [.int (xs ((1 : Int32).toNatClampNeg)), .int (xs ((2 : Int32).toNatClampNeg))]) (rest := []) ⟨hx, hb, hml, hown, hts⟩ (c_X10_ofMachine l hnt dC dI a0 m0 l1 l2 ((xs ((1 : Int32).toNatClampNeg))) ((xs ((2 : Int32).toNatClampNeg))) H.size ) (cwV 2 hts (goodIn_of _ (by decide +kernel)) rfl rfl rfl (by decide +kernel) ⟨Nat.le_of_ble_eq_true rfl, Nat.le_of_ble_eq_true rfl⟩) ⟨fun a U g mk q => by obtain ⟨q0, q1, qP, qK, qD, qZ⟩ := q; exact ⟨q0, q1, qP, va_K.moved (u := U) (U := U.calling g mk a) (Vm.Alike.refl U.vm) qK, qD, qZ.call⟩, va_recv hKc hPc (ci := 12) (q0 := 0) rfl rfl, fun U hU hW => ⟨rfl, by rw [hU], by rw [hU]; exact hPc, va_K.moved hW.alike hKc, hDc.weaken (fun _ _ _ _ => trivial), by rw [hU]; exact hZc.warm hW⟩⟩ rfl rfl hl.1 rfl (lv_room (Nat.le_of_ble_eq_true rfl)) dL_law_934 ⟨Nat.le_of_ble_eq_true rfl, Nat.le_of_ble_eq_true rfl⟩) hS (fun q _ h => hFc q h) hFc (fun r_6 u t H1 locs ht hvm hw hB hz1 hk1 hS => ?_)
  obtain ⟨hP1, hK1, hD1⟩ := hB
  rw [ht] at hP1
  have hK1 := va_K.moved hvm.symm hK1
  obtain ⟨hP, hD⟩ := va_join (wr := [(qm, .inl (cM, 12, .inr (.inr (.inr (.inr (fun _ => none)))))), (qt, .inl (cT, 4, .inr (.inr (.inr (.inr (fun _ => none)))))), (l2, .inr (1, [.int 0, .ref a0, .int 0])), (qd, .inl (cD, 1, .inr (.inr (.inr (.inl (fun _ => 0))))))]) (w1 := [(m0, .inr (12, [.int 1, .ref l1, .ref l2, .int 0, .int 0, .int 0, .long 0]))]) hP hD [2, 3] [0, 1, 4, 5] rfl rfl (by decide) (by decide) hk1 hFc hP1 hD1
  have hK := (hK.sub (tys' := [(cM, .object "Haltingale$Machine"), (cT, .object "Haltingale$Tag"), (cL, .long), (cD, .double)]) [0, 1, 2, 3] rfl).app hK1
  generalize H1 = H at hP hS ⊢
  have hP : va_P (dC, dI) vwCl [(qm, .inl (cM, 12, .inr (.inr (.inr (.inr (fun _ => none)))))), (qt, .inl (cT, 4, .inr (.inr (.inr (.inr (fun _ => none)))))), (l2, .inr (1, [.int 0, .ref a0, .int 0])), (qd, .inl (cD, 1, .inr (.inr (.inr (.inl (fun _ => 0)))))), (m0, .inr (12, [.int 1, .ref l1, .ref l2, .int 0, .int 0, .int 0, .long 0]))] H := hP
  have hD : va_D A [(qm, .inl (cM, 12, .inr (.inr (.inr (.inr (fun _ => none)))))), (qt, .inl (cT, 4, .inr (.inr (.inr (.inr (fun _ => none)))))), (l2, .inr (1, [.int 0, .ref a0, .int 0])), (qd, .inl (cD, 1, .inr (.inr (.inr (.inl (fun _ => 0)))))), (m0, .inr (12, [.int 1, .ref l1, .ref l2, .int 0, .int 0, .int 0, .long 0]))] := hD
  have hK : va_K (dC, dI) vwCl [(cM, .object "Haltingale$Machine"), (cT, .object "Haltingale$Tag"), (cL, .long), (cD, .double)] s := hK
  refine W.widen (k := 32) (n := 4330) (Nat.le_of_ble_eq_true rfl) (Nat.le_of_ble_eq_true rfl) ?_
  obtain rfl : r_6 = 0 := hw
  refine lv_istore (lv' := [(7, .int 0), (6, .int 1), (5, .int 0), (4, .ref qd), (3, .ref qo), (2, .ref m0), (1, .ref x0), (0, .ref b)]) hx hb dL_law_937 hl (by decide) rfl (fun ls hl => ?_)
  refine lv_aload_n hx hb dL_law_939 rfl (lv_at hl 5 rfl) ?_
  have hPc := hP.sub (ws' := [(m0, .inr (12, [.int 1, .ref l1, .ref l2, .int 0, .int 0, .int 0, .long 0]))]) [4] rfl
  have hDc := hD.sub (ws' := [(m0, .inr (12, [.int 1, .ref l1, .ref l2, .int 0, .int 0, .int 0, .long 0]))]) [4] (by decide) rfl
  have hKc := hK.sub (tys' := []) [] rfl
  have hFc := va_free (wc := [(m0, .inr (12, [.int 1, .ref l1, .ref l2, .int 0, .int 0, .int 0, .long 0]))]) hD hS hA [4] rfl
  have hZc := ((hZ.kept hS.2.1).narrow hFc)
  refine va_calli (va_runV (As := []) (rest := []) ⟨hx, hb, hml, hown, hts⟩ (c_X10_thrown l hnt dC dI a0 m0 l1 l2 1 H.size ) (cwV 0 hts (goodIn_of _ (by decide +kernel)) rfl rfl rfl (by decide +kernel) ⟨Nat.le_of_ble_eq_true rfl, Nat.le_of_ble_eq_true rfl⟩) ⟨fun a U g mk q => by obtain ⟨q0, q1, qP, qK, qD, qZ⟩ := q; exact ⟨q0, q1, qP, va_K.moved (u := U) (U := U.calling g mk a) (Vm.Alike.refl U.vm) qK, qD, qZ.call⟩, va_recv hKc hPc (ci := 12) (q0 := 0) rfl rfl, fun U hU hW => ⟨rfl, by rw [hU], by rw [hU]; exact hPc, va_K.moved hW.alike hKc, hDc.weaken (fun _ _ _ _ => trivial), by rw [hU]; exact hZc.warm hW⟩⟩ rfl rfl hl.1 rfl (lv_room (Nat.le_of_ble_eq_true rfl)) dL_law_940 ⟨Nat.le_of_ble_eq_true rfl, Nat.le_of_ble_eq_true rfl⟩) hS (fun q _ h => hFc q h) hFc (fun r_7 u t H1 locs ht hvm hw hB hz1 hk1 hS => ?_)
  obtain ⟨hP1, hK1, hD1⟩ := hB
  rw [ht] at hP1
  have hK1 := va_K.moved hvm.symm hK1
  obtain ⟨hP, hD⟩ := va_join (wr := [(qm, .inl (cM, 12, .inr (.inr (.inr (.inr (fun _ => none)))))), (qt, .inl (cT, 4, .inr (.inr (.inr (.inr (fun _ => none)))))), (l2, .inr (1, [.int 0, .ref a0, .int 0])), (qd, .inl (cD, 1, .inr (.inr (.inr (.inl (fun _ => 0))))))]) (w1 := []) hP hD [4] [0, 1, 2, 3] rfl rfl (by decide) (by decide) hk1 hFc hP1 hD1
  have hK := (hK.sub (tys' := [(cM, .object "Haltingale$Machine"), (cT, .object "Haltingale$Tag"), (cL, .long), (cD, .double)]) [0, 1, 2, 3] rfl).app hK1
  generalize H1 = H at hP hS ⊢
  have hP : va_P (dC, dI) vwCl [(qm, .inl (cM, 12, .inr (.inr (.inr (.inr (fun _ => none)))))), (qt, .inl (cT, 4, .inr (.inr (.inr (.inr (fun _ => none)))))), (l2, .inr (1, [.int 0, .ref a0, .int 0])), (qd, .inl (cD, 1, .inr (.inr (.inr (.inl (fun _ => 0))))))] H := hP
  have hD : va_D A [(qm, .inl (cM, 12, .inr (.inr (.inr (.inr (fun _ => none)))))), (qt, .inl (cT, 4, .inr (.inr (.inr (.inr (fun _ => none)))))), (l2, .inr (1, [.int 0, .ref a0, .int 0])), (qd, .inl (cD, 1, .inr (.inr (.inr (.inl (fun _ => 0))))))] := hD
  have hK : va_K (dC, dI) vwCl [(cM, .object "Haltingale$Machine"), (cT, .object "Haltingale$Tag"), (cL, .long), (cD, .double)] s := hK
  refine W.widen (k := 32) (n := 4330) (Nat.le_of_ble_eq_true rfl) (Nat.le_of_ble_eq_true rfl) ?_
  obtain rfl : r_7 = 1 := hw
  refine lv_iload hx hb dL_law_943 (lv_at hl 1 rfl) ?_
  refine lv_icmp_eq (tgt := 950) hx hb dL_law_945 (by decide) (fun c_8 => ?_) (fun c_8 => ?_)
  rotate_left
  · (first | exact absurd c_8 (by decide) | exact absurd (by decide) c_8)
  refine lv_iload hx hb dL_law_950 (lv_at hl 1 rfl) ?_
  refine lv_if_ne (tgt := 967) hx hb dL_law_952 (by decide) (fun c_9 => ?_) (fun c_9 => ?_)
  rotate_left
  · (first | exact absurd c_9 (by decide) | exact absurd (by decide) c_9)
  refine lv_goto (tgt := 1806) hx hb dL_law_967 (by decide) ?_
  refine lv_iinc (v := 7) (lv' := [(5, .int 7), (7, .int 0), (6, .int 1), (4, .ref qd), (3, .ref qo), (2, .ref m0), (1, .ref x0), (0, .ref b)]) hx hb dL_law_1806 hl (k := 2) rfl (by decide) (by decide) rfl (fun ls hl => ?_)
  refine lv_goto (tgt := 28) hx hb dL_law_1809 (by decide) ?_
  refine lv_iload hx hb dL_law_28 (lv_at hl 0 rfl) ?_
  refine lv_aload_n hx hb dL_law_30 rfl (lv_at hl 7 rfl) ?_
  refine va_slen hx hb hX hbl hbA hS dL_law_31 ?_
  refine lv_topi (fun x_10 ex_10 => ?_)
  obtain rfl : x_10 = 7 := ex_10.trans (by decide)
  refine lv_bipush (v := 7) hx hb dL_law_32 (by decide) ?_
  refine lv_isub hx hb dL_law_34 ?_
  refine lv_topi (fun x_11 ex_11 => ?_)
  obtain rfl : x_11 = 0 := ex_11.trans (by decide)
  refine lv_icmp_gt (tgt := 1812) hx hb dL_law_35 (by decide) (fun c_12 => ?_) (fun c_12 => ?_)
  rotate_left
  · (first | exact absurd c_12 (by decide) | exact absurd (by decide) c_12)
  refine lv_iconst (v := 1) hx hb dL_law_1812 (by decide) ?_
  refine va_forget (fun q hq => hA2 _ (hS.2.2 q hq)) ?_
  refine W.widen (k := room_1.cells) (n := room_1.slots) (Nat.le_of_ble_eq_true rfl) (Nat.le_of_ble_eq_true rfl) ?_
  exact lw_ret0 hx hb hr hlocks dL_law_1813

set_option maxHeartbeats 4000000 in
set_option maxRecDepth 100000 in
/-- the law, case 10 -/
theorem law_10 {p : Program} {l : Launch} (hnt : l.stackTraces = false) {e : Env} {s : State} {m : MethodId} {below : List Frame} {meth : Method} {c : Code} {dC : Nat → ClassId} {dI : Nat → Nat → Nat} {a0 b : Nat} {xs : Nat → Int32} (C0 : lw_At p s m meth c b 7 xs) {A : Nat → Prop} (hA : ∀ q : Nat, s.heap.size ≤ q → A q) (hA2 : ∀ q : Nat, A q → s.heap.size ≤ q) (hZ : zB a0 A s s.heap) {x0 : Nat} {qm : Nat} {qt : Nat} {qw : Nat} {qc : Nat} {qb : Nat} {qg : Nat} {m0 : Nat} {l1 : Nat} {l2 : Nat} {qo : Nat} {qd : Nat} {cM : ClassId} {cT : ClassId} {cL : ClassId} {cD : ClassId} {H : Heap} {locs : List Loc} (hK : va_K (dC, dI) vwCl [(cM, .object "Haltingale$Machine"), (cT, .object "Haltingale$Tag"), (cL, .long), (cD, .double)] s) (hP : va_P (dC, dI) vwCl [(x0, .inr (9, [.ref qm, .ref qt, .ref qw, .ref qc, .ref qb, .ref qg, .int 0, .int 0, .int 0, .int 0, .int 0])), (qm, .inl (cM, 12, .inr (.inr (.inr (.inr (fun _ => none)))))), (qt, .inl (cT, 4, .inr (.inr (.inr (.inr (fun _ => none)))))), (m0, .inr (12, [.int 0, .ref l1, .ref l2, .int 0, .int 0, .int 0, .long 0])), (l1, .inr (1, [.int 0, .ref a0, .int 0])), (l2, .inr (1, [.int 0, .ref a0, .int 0])), (qo, .inl (cL, 1, .inr (.inl (fun _ => 0)))), (qd, .inl (cD, 1, .inr (.inr (.inr (.inl (fun _ => 0))))))] H) (hD : va_D A [(x0, .inr (9, [.ref qm, .ref qt, .ref qw, .ref qc, .ref qb, .ref qg, .int 0, .int 0, .int 0, .int 0, .int 0])), (qm, .inl (cM, 12, .inr (.inr (.inr (.inr (fun _ => none)))))), (qt, .inl (cT, 4, .inr (.inr (.inr (.inr (fun _ => none)))))), (m0, .inr (12, [.int 0, .ref l1, .ref l2, .int 0, .int 0, .int 0, .long 0])), (l1, .inr (1, [.int 0, .ref a0, .int 0])), (l2, .inr (1, [.int 0, .ref a0, .int 0])), (qo, .inl (cL, 1, .inr (.inl (fun _ => 0)))), (qd, .inl (cD, 1, .inr (.inr (.inr (.inl (fun _ => 0))))))]) (hS : va_S A s.heap H locs) {ls : Array Slot} (hl : lv_has ls 10 [(5, .int 0), (4, .ref qd), (3, .ref qo), (2, .ref m0), (1, .ref x0), (0, .ref b)])  : W p l e room_1 s m #[Value.ref b] below meth c H locs 31 4324 (lw_Z below #[Value.ref b] s) (F0 m 970 ls []) := by
  obtain ⟨hx, hb, hr, hml, hown, hts0, hX, hbl, hlocks, hgv⟩ := C0
  have hts : ∀ w ∈ zs_law, w.before #[Value.ref b] s = true := fun w h => hts0 w (zs_law_in w h)
  have hbA : ¬ A b := fun h => absurd (hA2 b h) (Nat.not_le.mpr hbl)
  refine lv_aload_n hx hb dL_law_970 rfl (lv_at hl 4 rfl) ?_
  refine lv_aload_n hx hb dL_law_971 rfl (lv_at hl 5 rfl) ?_
  refine lv_iload hx hb dL_law_972 (lv_at hl 0 rfl) ?_
  refine lv_iconst (v := 1) hx hb dL_law_974 (by decide) ?_
  refine lv_iadd hx hb dL_law_975 ?_
  refine lv_topi (fun x_1 ex_1 => ?_)
  obtain rfl : x_1 = 1 := ex_1.trans (by decide)
  refine va_sld hx hb hX hbl hbA hS (by unfold vp_in; decide) dL_law_976 ?_
  refine lv_aload_n hx hb dL_law_977 rfl (lv_at hl 5 rfl) ?_
  refine lv_iload hx hb dL_law_978 (lv_at hl 0 rfl) ?_
  refine lv_iconst (v := 2) hx hb dL_law_980 (by decide) ?_
  refine lv_iadd hx hb dL_law_981 ?_
  refine lv_topi (fun x_2 ex_2 => ?_)
  obtain rfl : x_2 = 2 := ex_2.trans (by decide)
  refine va_sld hx hb hX hbl hbA hS (by unfold vp_in; decide) dL_law_982 ?_
  refine lv_aload_n hx hb dL_law_983 rfl (lv_at hl 5 rfl) ?_
  refine lv_iload hx hb dL_law_984 (lv_at hl 0 rfl) ?_
  refine lv_iconst (v := 3) hx hb dL_law_986 (by decide) ?_
  refine lv_iadd hx hb dL_law_987 ?_
  refine lv_topi (fun x_3 ex_3 => ?_)
  obtain rfl : x_3 = 3 := ex_3.trans (by decide)
  refine va_sld hx hb hX hbl hbA hS (by unfold vp_in; decide) dL_law_988 ?_
  refine lv_aload_n hx hb dL_law_989 rfl (lv_at hl 2 rfl) ?_
  have hPc := hP.sub (ws' := [(x0, .inr (9, [.ref qm, .ref qt, .ref qw, .ref qc, .ref qb, .ref qg, .int 0, .int 0, .int 0, .int 0, .int 0])), (qo, .inl (cL, 1, .inr (.inl (fun _ => 0))))]) [0, 6] rfl
  have hDc := hD.sub (ws' := [(x0, .inr (9, [.ref qm, .ref qt, .ref qw, .ref qc, .ref qb, .ref qg, .int 0, .int 0, .int 0, .int 0, .int 0])), (qo, .inl (cL, 1, .inr (.inl (fun _ => 0))))]) [0, 6] (by decide) rfl
  have hKc := hK.sub (tys' := [(cL, .long)]) [2] rfl
  have hFc := va_free (wc := [(x0, .inr (9, [.ref qm, .ref qt, .ref qw, .ref qc, .ref qb, .ref qg, .int 0, .int 0, .int 0, .int 0, .int 0])), (qo, .inl (cL, 1, .inr (.inl (fun _ => 0))))]) hD hS hA [0, 6] rfl
  have hZc := ((hZ.kept hS.2.1).narrow hFc)
  refine va_calli (vx_runSW (As := [.ref x0, .int (xs ((1 : Int32).toNatClampNeg)), .int (xs ((2 : Int32).toNatClampNeg)), .int (xs ((3 : Int32).toNatClampNeg)), .ref qo]) (rest := []) ⟨hx, hb, hml, hown, hts⟩ (c_L_at l hnt dC dI a0 x0 qm qt qw qc qb qg qo cL ((xs ((1 : Int32).toNatClampNeg))) ((xs ((2 : Int32).toNatClampNeg))) ((xs ((3 : Int32).toNatClampNeg))) H.size ) (vx_cwSW 5 hts (goodIn_of _ (by decide +kernel)) rfl rfl rfl (by decide +kernel) ⟨Nat.le_of_ble_eq_true rfl, Nat.le_of_ble_eq_true rfl⟩) ⟨fun a U g mk q => by obtain ⟨q0, q1, qP, qK, qD, qZ⟩ := q; exact ⟨q0, q1, qP, va_K.moved (u := U) (U := U.calling g mk a) (Vm.Alike.refl U.vm) qK, qD, qZ.call⟩, fun U hU hW => ⟨rfl, by rw [hU], by rw [hU]; exact hPc, va_K.moved hW.alike hKc, hDc.weaken (fun _ _ _ _ => trivial), by rw [hU]; exact hZc.warm hW⟩⟩ rfl rfl hl.1 rfl (lv_room (Nat.le_of_ble_eq_true rfl)) dL_law_990 ⟨Nat.le_of_ble_eq_true rfl, Nat.le_of_ble_eq_true rfl⟩) hS (fun q _ h => hFc q h) hFc (fun r_4 u t H1 locs ht hvm hw hB hz1 hk1 hS => ?_)
  obtain ⟨hP1, hK1, hD1⟩ := hB
  rw [ht] at hP1
  have hK1 := va_K.moved hvm.symm hK1
  obtain ⟨hP, hD⟩ := va_join (wr := [(qm, .inl (cM, 12, .inr (.inr (.inr (.inr (fun _ => none)))))), (qt, .inl (cT, 4, .inr (.inr (.inr (.inr (fun _ => none)))))), (m0, .inr (12, [.int 0, .ref l1, .ref l2, .int 0, .int 0, .int 0, .long 0])), (l1, .inr (1, [.int 0, .ref a0, .int 0])), (l2, .inr (1, [.int 0, .ref a0, .int 0])), (qd, .inl (cD, 1, .inr (.inr (.inr (.inl (fun _ => 0))))))]) (w1 := []) hP hD [0, 6] [1, 2, 3, 4, 5, 7] rfl rfl (by decide) (by decide) hk1 hFc hP1 hD1
  have hK := (hK.sub (tys' := [(cM, .object "Haltingale$Machine"), (cT, .object "Haltingale$Tag"), (cL, .long), (cD, .double)]) [0, 1, 2, 3] rfl).app hK1
  generalize H1 = H at hP hS ⊢
  have hP : va_P (dC, dI) vwCl [(qm, .inl (cM, 12, .inr (.inr (.inr (.inr (fun _ => none)))))), (qt, .inl (cT, 4, .inr (.inr (.inr (.inr (fun _ => none)))))), (m0, .inr (12, [.int 0, .ref l1, .ref l2, .int 0, .int 0, .int 0, .long 0])), (l1, .inr (1, [.int 0, .ref a0, .int 0])), (l2, .inr (1, [.int 0, .ref a0, .int 0])), (qd, .inl (cD, 1, .inr (.inr (.inr (.inl (fun _ => 0))))))] H := hP
  have hD : va_D A [(qm, .inl (cM, 12, .inr (.inr (.inr (.inr (fun _ => none)))))), (qt, .inl (cT, 4, .inr (.inr (.inr (.inr (fun _ => none)))))), (m0, .inr (12, [.int 0, .ref l1, .ref l2, .int 0, .int 0, .int 0, .long 0])), (l1, .inr (1, [.int 0, .ref a0, .int 0])), (l2, .inr (1, [.int 0, .ref a0, .int 0])), (qd, .inl (cD, 1, .inr (.inr (.inr (.inl (fun _ => 0))))))] := hD
  have hK : va_K (dC, dI) vwCl [(cM, .object "Haltingale$Machine"), (cT, .object "Haltingale$Tag"), (cL, .long), (cD, .double)] s := hK
  refine W.widen (k := 32) (n := 4330) (Nat.le_of_ble_eq_true rfl) (Nat.le_of_ble_eq_true rfl) ?_
  obtain rfl : r_4 = 1 := hw
  refine lv_istore (lv' := [(6, .int 1), (5, .int 0), (4, .ref qd), (3, .ref qo), (2, .ref m0), (1, .ref x0), (0, .ref b)]) hx hb dL_law_993 hl (by decide) rfl (fun ls hl => ?_)
  refine lv_aload_n hx hb dL_law_995 rfl (lv_at hl 4 rfl) ?_
  refine lv_aload_n hx hb dL_law_996 rfl (lv_at hl 6 rfl) ?_
  refine lv_iload hx hb dL_law_997 (lv_at hl 1 rfl) ?_
  refine lv_iconst (v := 1) hx hb dL_law_999 (by decide) ?_
  refine lv_iadd hx hb dL_law_1000 ?_
  refine lv_topi (fun x_5 ex_5 => ?_)
  obtain rfl : x_5 = 1 := ex_5.trans (by decide)
  refine va_sld hx hb hX hbl hbA hS (by unfold vp_in; decide) dL_law_1001 ?_
  refine lv_aload_n hx hb dL_law_1002 rfl (lv_at hl 6 rfl) ?_
  refine lv_iload hx hb dL_law_1003 (lv_at hl 1 rfl) ?_
  refine lv_iconst (v := 2) hx hb dL_law_1005 (by decide) ?_
  refine lv_iadd hx hb dL_law_1006 ?_
  refine lv_topi (fun x_6 ex_6 => ?_)
  obtain rfl : x_6 = 2 := ex_6.trans (by decide)
  refine va_sld hx hb hX hbl hbA hS (by unfold vp_in; decide) dL_law_1007 ?_
  refine lv_aload_n hx hb dL_law_1008 rfl (lv_at hl 6 rfl) ?_
  refine lv_iload hx hb dL_law_1009 (lv_at hl 1 rfl) ?_
  refine lv_iconst (v := 3) hx hb dL_law_1011 (by decide) ?_
  refine lv_iadd hx hb dL_law_1012 ?_
  refine lv_topi (fun x_7 ex_7 => ?_)
  obtain rfl : x_7 = 3 := ex_7.trans (by decide)
  refine va_sld hx hb hX hbl hbA hS (by unfold vp_in; decide) dL_law_1013 ?_
  have hPc := hP.sub (ws' := [(m0, .inr (12, [.int 0, .ref l1, .ref l2, .int 0, .int 0, .int 0, .long 0])), (l1, .inr (1, [.int 0, .ref a0, .int 0]))]) [2, 3] rfl
  have hDc := hD.sub (ws' := [(m0, .inr (12, [.int 0, .ref l1, .ref l2, .int 0, .int 0, .int 0, .long 0])), (l1, .inr (1, [.int 0, .ref a0, .int 0]))]) [2, 3] (by decide) rfl
  have hKc := hK.sub (tys' := []) [] rfl
  have hFc := va_free (wc := [(m0, .inr (12, [.int 0, .ref l1, .ref l2, .int 0, .int 0, .int 0, .long 0])), (l1, .inr (1, [.int 0, .ref a0, .int 0]))]) hD hS hA [2, 3] rfl
  have hZc := ((hZ.kept hS.2.1).narrow hFc)
  refine va_calli (va_runV (As := [.int (xs ((1 : Int32).toNatClampNeg)), .int (xs ((2 : Int32).toNatClampNeg)), .int (xs ((3 : Int32).toNatClampNeg))]) (rest := []) ⟨hx, hb, hml, hown, hts⟩ (c_X10_at l hnt dC dI a0 m0 l1 l2 ((xs ((1 : Int32).toNatClampNeg))) ((xs ((2 : Int32).toNatClampNeg))) ((xs ((3 : Int32).toNatClampNeg))) H.size ) (cwV 3 hts (goodIn_of _ (by decide +kernel)) rfl rfl rfl (by decide +kernel) ⟨Nat.le_of_ble_eq_true rfl, Nat.le_of_ble_eq_true rfl⟩) ⟨fun a U g mk q => by obtain ⟨q0, q1, qP, qK, qD, qZ⟩ := q; exact ⟨q0, q1, qP, va_K.moved (u := U) (U := U.calling g mk a) (Vm.Alike.refl U.vm) qK, qD, qZ.call⟩, va_recv hKc hPc (ci := 12) (q0 := 0) rfl rfl, fun U hU hW => ⟨rfl, by rw [hU], by rw [hU]; exact hPc, va_K.moved hW.alike hKc, hDc.weaken (fun _ _ _ _ => trivial), by rw [hU]; exact hZc.warm hW⟩⟩ rfl rfl hl.1 rfl (lv_room (Nat.le_of_ble_eq_true rfl)) dL_law_1014 ⟨Nat.le_of_ble_eq_true rfl, Nat.le_of_ble_eq_true rfl⟩) hS (fun q _ h => hFc q h) hFc (fun r_8 u t H1 locs ht hvm hw hB hz1 hk1 hS => ?_)
  obtain ⟨hP1, hK1, hD1⟩ := hB
  rw [ht] at hP1
  have hK1 := va_K.moved hvm.symm hK1
  obtain ⟨hP, hD⟩ := va_join (wr := [(qm, .inl (cM, 12, .inr (.inr (.inr (.inr (fun _ => none)))))), (qt, .inl (cT, 4, .inr (.inr (.inr (.inr (fun _ => none)))))), (l2, .inr (1, [.int 0, .ref a0, .int 0])), (qd, .inl (cD, 1, .inr (.inr (.inr (.inl (fun _ => 0))))))]) (w1 := [(m0, .inr (12, [.int 1, .ref l1, .ref l2, .int 0, .int 0, .int 0, .long 0]))]) hP hD [2, 3] [0, 1, 4, 5] rfl rfl (by decide) (by decide) hk1 hFc hP1 hD1
  have hK := (hK.sub (tys' := [(cM, .object "Haltingale$Machine"), (cT, .object "Haltingale$Tag"), (cL, .long), (cD, .double)]) [0, 1, 2, 3] rfl).app hK1
  generalize H1 = H at hP hS ⊢
  have hP : va_P (dC, dI) vwCl [(qm, .inl (cM, 12, .inr (.inr (.inr (.inr (fun _ => none)))))), (qt, .inl (cT, 4, .inr (.inr (.inr (.inr (fun _ => none)))))), (l2, .inr (1, [.int 0, .ref a0, .int 0])), (qd, .inl (cD, 1, .inr (.inr (.inr (.inl (fun _ => 0)))))), (m0, .inr (12, [.int 1, .ref l1, .ref l2, .int 0, .int 0, .int 0, .long 0]))] H := hP
  have hD : va_D A [(qm, .inl (cM, 12, .inr (.inr (.inr (.inr (fun _ => none)))))), (qt, .inl (cT, 4, .inr (.inr (.inr (.inr (fun _ => none)))))), (l2, .inr (1, [.int 0, .ref a0, .int 0])), (qd, .inl (cD, 1, .inr (.inr (.inr (.inl (fun _ => 0)))))), (m0, .inr (12, [.int 1, .ref l1, .ref l2, .int 0, .int 0, .int 0, .long 0]))] := hD
  have hK : va_K (dC, dI) vwCl [(cM, .object "Haltingale$Machine"), (cT, .object "Haltingale$Tag"), (cL, .long), (cD, .double)] s := hK
  refine W.widen (k := 32) (n := 4330) (Nat.le_of_ble_eq_true rfl) (Nat.le_of_ble_eq_true rfl) ?_
  obtain rfl : r_8 = 0 := hw
  refine lv_istore (lv' := [(7, .int 0), (6, .int 1), (5, .int 0), (4, .ref qd), (3, .ref qo), (2, .ref m0), (1, .ref x0), (0, .ref b)]) hx hb dL_law_1017 hl (by decide) rfl (fun ls hl => ?_)
  refine lv_aload_n hx hb dL_law_1019 rfl (lv_at hl 5 rfl) ?_
  have hPc := hP.sub (ws' := [(m0, .inr (12, [.int 1, .ref l1, .ref l2, .int 0, .int 0, .int 0, .long 0]))]) [4] rfl
  have hDc := hD.sub (ws' := [(m0, .inr (12, [.int 1, .ref l1, .ref l2, .int 0, .int 0, .int 0, .long 0]))]) [4] (by decide) rfl
  have hKc := hK.sub (tys' := []) [] rfl
  have hFc := va_free (wc := [(m0, .inr (12, [.int 1, .ref l1, .ref l2, .int 0, .int 0, .int 0, .long 0]))]) hD hS hA [4] rfl
  have hZc := ((hZ.kept hS.2.1).narrow hFc)
  refine va_calli (va_runV (As := []) (rest := []) ⟨hx, hb, hml, hown, hts⟩ (c_X10_thrown l hnt dC dI a0 m0 l1 l2 1 H.size ) (cwV 0 hts (goodIn_of _ (by decide +kernel)) rfl rfl rfl (by decide +kernel) ⟨Nat.le_of_ble_eq_true rfl, Nat.le_of_ble_eq_true rfl⟩) ⟨fun a U g mk q => by obtain ⟨q0, q1, qP, qK, qD, qZ⟩ := q; exact ⟨q0, q1, qP, va_K.moved (u := U) (U := U.calling g mk a) (Vm.Alike.refl U.vm) qK, qD, qZ.call⟩, va_recv hKc hPc (ci := 12) (q0 := 0) rfl rfl, fun U hU hW => ⟨rfl, by rw [hU], by rw [hU]; exact hPc, va_K.moved hW.alike hKc, hDc.weaken (fun _ _ _ _ => trivial), by rw [hU]; exact hZc.warm hW⟩⟩ rfl rfl hl.1 rfl (lv_room (Nat.le_of_ble_eq_true rfl)) dL_law_1020 ⟨Nat.le_of_ble_eq_true rfl, Nat.le_of_ble_eq_true rfl⟩) hS (fun q _ h => hFc q h) hFc (fun r_9 u t H1 locs ht hvm hw hB hz1 hk1 hS => ?_)
  obtain ⟨hP1, hK1, hD1⟩ := hB
  rw [ht] at hP1
  have hK1 := va_K.moved hvm.symm hK1
  obtain ⟨hP, hD⟩ := va_join (wr := [(qm, .inl (cM, 12, .inr (.inr (.inr (.inr (fun _ => none)))))), (qt, .inl (cT, 4, .inr (.inr (.inr (.inr (fun _ => none)))))), (l2, .inr (1, [.int 0, .ref a0, .int 0])), (qd, .inl (cD, 1, .inr (.inr (.inr (.inl (fun _ => 0))))))]) (w1 := []) hP hD [4] [0, 1, 2, 3] rfl rfl (by decide) (by decide) hk1 hFc hP1 hD1
  have hK := (hK.sub (tys' := [(cM, .object "Haltingale$Machine"), (cT, .object "Haltingale$Tag"), (cL, .long), (cD, .double)]) [0, 1, 2, 3] rfl).app hK1
  generalize H1 = H at hP hS ⊢
  have hP : va_P (dC, dI) vwCl [(qm, .inl (cM, 12, .inr (.inr (.inr (.inr (fun _ => none)))))), (qt, .inl (cT, 4, .inr (.inr (.inr (.inr (fun _ => none)))))), (l2, .inr (1, [.int 0, .ref a0, .int 0])), (qd, .inl (cD, 1, .inr (.inr (.inr (.inl (fun _ => 0))))))] H := hP
  have hD : va_D A [(qm, .inl (cM, 12, .inr (.inr (.inr (.inr (fun _ => none)))))), (qt, .inl (cT, 4, .inr (.inr (.inr (.inr (fun _ => none)))))), (l2, .inr (1, [.int 0, .ref a0, .int 0])), (qd, .inl (cD, 1, .inr (.inr (.inr (.inl (fun _ => 0))))))] := hD
  have hK : va_K (dC, dI) vwCl [(cM, .object "Haltingale$Machine"), (cT, .object "Haltingale$Tag"), (cL, .long), (cD, .double)] s := hK
  refine W.widen (k := 32) (n := 4330) (Nat.le_of_ble_eq_true rfl) (Nat.le_of_ble_eq_true rfl) ?_
  obtain rfl : r_9 = 1 := hw
  refine lv_iload hx hb dL_law_1023 (lv_at hl 1 rfl) ?_
  refine lv_icmp_eq (tgt := 1030) hx hb dL_law_1025 (by decide) (fun c_10 => ?_) (fun c_10 => ?_)
  rotate_left
  · (first | exact absurd c_10 (by decide) | exact absurd (by decide) c_10)
  refine lv_iload hx hb dL_law_1030 (lv_at hl 1 rfl) ?_
  refine lv_if_ne (tgt := 1047) hx hb dL_law_1032 (by decide) (fun c_11 => ?_) (fun c_11 => ?_)
  rotate_left
  · (first | exact absurd c_11 (by decide) | exact absurd (by decide) c_11)
  refine lv_goto (tgt := 1806) hx hb dL_law_1047 (by decide) ?_
  refine lv_iinc (v := 7) (lv' := [(5, .int 7), (7, .int 0), (6, .int 1), (4, .ref qd), (3, .ref qo), (2, .ref m0), (1, .ref x0), (0, .ref b)]) hx hb dL_law_1806 hl (k := 2) rfl (by decide) (by decide) rfl (fun ls hl => ?_)
  refine lv_goto (tgt := 28) hx hb dL_law_1809 (by decide) ?_
  refine lv_iload hx hb dL_law_28 (lv_at hl 0 rfl) ?_
  refine lv_aload_n hx hb dL_law_30 rfl (lv_at hl 7 rfl) ?_
  refine va_slen hx hb hX hbl hbA hS dL_law_31 ?_
  refine lv_topi (fun x_12 ex_12 => ?_)
  obtain rfl : x_12 = 7 := ex_12.trans (by decide)
  refine lv_bipush (v := 7) hx hb dL_law_32 (by decide) ?_
  refine lv_isub hx hb dL_law_34 ?_
  refine lv_topi (fun x_13 ex_13 => ?_)
  obtain rfl : x_13 = 0 := ex_13.trans (by decide)
  refine lv_icmp_gt (tgt := 1812) hx hb dL_law_35 (by decide) (fun c_14 => ?_) (fun c_14 => ?_)
  rotate_left
  · (first | exact absurd c_14 (by decide) | exact absurd (by decide) c_14)
  refine lv_iconst (v := 1) hx hb dL_law_1812 (by decide) ?_
  refine va_forget (fun q hq => hA2 _ (hS.2.2 q hq)) ?_
  refine W.widen (k := room_1.cells) (n := room_1.slots) (Nat.le_of_ble_eq_true rfl) (Nat.le_of_ble_eq_true rfl) ?_
  exact lw_ret0 hx hb hr hlocks dL_law_1813

set_option maxHeartbeats 4000000 in
set_option maxRecDepth 100000 in
/-- the law, case 11 -/
theorem law_11 {p : Program} {l : Launch} (hnt : l.stackTraces = false) {e : Env} {s : State} {m : MethodId} {below : List Frame} {meth : Method} {c : Code} {dC : Nat → ClassId} {dI : Nat → Nat → Nat} {a0 b : Nat} {xs : Nat → Int32} (C0 : lw_At p s m meth c b 7 xs) {A : Nat → Prop} (hA : ∀ q : Nat, s.heap.size ≤ q → A q) (hA2 : ∀ q : Nat, A q → s.heap.size ≤ q) (hZ : zB a0 A s s.heap) {x0 : Nat} {qm : Nat} {qt : Nat} {qw : Nat} {qc : Nat} {qb : Nat} {qg : Nat} {m0 : Nat} {l1 : Nat} {l2 : Nat} {qo : Nat} {qd : Nat} {cM : ClassId} {cT : ClassId} {cL : ClassId} {cD : ClassId} {H : Heap} {locs : List Loc} (hK : va_K (dC, dI) vwCl [(cM, .object "Haltingale$Machine"), (cT, .object "Haltingale$Tag"), (cL, .long), (cD, .double)] s) (hP : va_P (dC, dI) vwCl [(x0, .inr (9, [.ref qm, .ref qt, .ref qw, .ref qc, .ref qb, .ref qg, .int 0, .int 0, .int 0, .int 0, .int 0])), (qm, .inl (cM, 12, .inr (.inr (.inr (.inr (fun _ => none)))))), (qt, .inl (cT, 4, .inr (.inr (.inr (.inr (fun _ => none)))))), (m0, .inr (12, [.int 0, .ref l1, .ref l2, .int 0, .int 0, .int 0, .long 0])), (l1, .inr (1, [.int 0, .ref a0, .int 0])), (l2, .inr (1, [.int 0, .ref a0, .int 0])), (qo, .inl (cL, 1, .inr (.inl (fun _ => 0)))), (qd, .inl (cD, 1, .inr (.inr (.inr (.inl (fun _ => 0))))))] H) (hD : va_D A [(x0, .inr (9, [.ref qm, .ref qt, .ref qw, .ref qc, .ref qb, .ref qg, .int 0, .int 0, .int 0, .int 0, .int 0])), (qm, .inl (cM, 12, .inr (.inr (.inr (.inr (fun _ => none)))))), (qt, .inl (cT, 4, .inr (.inr (.inr (.inr (fun _ => none)))))), (m0, .inr (12, [.int 0, .ref l1, .ref l2, .int 0, .int 0, .int 0, .long 0])), (l1, .inr (1, [.int 0, .ref a0, .int 0])), (l2, .inr (1, [.int 0, .ref a0, .int 0])), (qo, .inl (cL, 1, .inr (.inl (fun _ => 0)))), (qd, .inl (cD, 1, .inr (.inr (.inr (.inl (fun _ => 0))))))]) (hS : va_S A s.heap H locs) {ls : Array Slot} (hl : lv_has ls 10 [(5, .int 0), (4, .ref qd), (3, .ref qo), (2, .ref m0), (1, .ref x0), (0, .ref b)])  : W p l e room_1 s m #[Value.ref b] below meth c H locs 31 4324 (lw_Z below #[Value.ref b] s) (F0 m 1050 ls []) := by
  obtain ⟨hx, hb, hr, hml, hown, hts0, hX, hbl, hlocks, hgv⟩ := C0
  have hts : ∀ w ∈ zs_law, w.before #[Value.ref b] s = true := fun w h => hts0 w (zs_law_in w h)
  have hbA : ¬ A b := fun h => absurd (hA2 b h) (Nat.not_le.mpr hbl)
  refine lv_aload_n hx hb dL_law_1050 rfl (lv_at hl 4 rfl) ?_
  refine lv_aload_n hx hb dL_law_1051 rfl (lv_at hl 5 rfl) ?_
  refine lv_iload hx hb dL_law_1052 (lv_at hl 0 rfl) ?_
  refine lv_iconst (v := 1) hx hb dL_law_1054 (by decide) ?_
  refine lv_iadd hx hb dL_law_1055 ?_
  refine lv_topi (fun x_1 ex_1 => ?_)
  obtain rfl : x_1 = 1 := ex_1.trans (by decide)
  refine va_sld hx hb hX hbl hbA hS (by unfold vp_in; decide) dL_law_1056 ?_
  refine lv_aload_n hx hb dL_law_1057 rfl (lv_at hl 5 rfl) ?_
  refine lv_iload hx hb dL_law_1058 (lv_at hl 0 rfl) ?_
  refine lv_iconst (v := 2) hx hb dL_law_1060 (by decide) ?_
  refine lv_iadd hx hb dL_law_1061 ?_
  refine lv_topi (fun x_2 ex_2 => ?_)
  obtain rfl : x_2 = 2 := ex_2.trans (by decide)
  refine va_sld hx hb hX hbl hbA hS (by unfold vp_in; decide) dL_law_1062 ?_
  refine lv_aload_n hx hb dL_law_1063 rfl (lv_at hl 5 rfl) ?_
  refine lv_iload hx hb dL_law_1064 (lv_at hl 0 rfl) ?_
  refine lv_iconst (v := 3) hx hb dL_law_1066 (by decide) ?_
  refine lv_iadd hx hb dL_law_1067 ?_
  refine lv_topi (fun x_3 ex_3 => ?_)
  obtain rfl : x_3 = 3 := ex_3.trans (by decide)
  refine va_sld hx hb hX hbl hbA hS (by unfold vp_in; decide) dL_law_1068 ?_
  refine lv_aload_n hx hb dL_law_1069 rfl (lv_at hl 2 rfl) ?_
  have hPc := hP.sub (ws' := [(x0, .inr (9, [.ref qm, .ref qt, .ref qw, .ref qc, .ref qb, .ref qg, .int 0, .int 0, .int 0, .int 0, .int 0])), (qo, .inl (cL, 1, .inr (.inl (fun _ => 0))))]) [0, 6] rfl
  have hDc := hD.sub (ws' := [(x0, .inr (9, [.ref qm, .ref qt, .ref qw, .ref qc, .ref qb, .ref qg, .int 0, .int 0, .int 0, .int 0, .int 0])), (qo, .inl (cL, 1, .inr (.inl (fun _ => 0))))]) [0, 6] (by decide) rfl
  have hKc := hK.sub (tys' := [(cL, .long)]) [2] rfl
  have hFc := va_free (wc := [(x0, .inr (9, [.ref qm, .ref qt, .ref qw, .ref qc, .ref qb, .ref qg, .int 0, .int 0, .int 0, .int 0, .int 0])), (qo, .inl (cL, 1, .inr (.inl (fun _ => 0))))]) hD hS hA [0, 6] rfl
  have hZc := ((hZ.kept hS.2.1).narrow hFc)
  refine va_calli (vx_runSW (As := [.ref x0, .int (xs ((1 : Int32).toNatClampNeg)), .int (xs ((2 : Int32).toNatClampNeg)), .int (xs ((3 : Int32).toNatClampNeg)), .ref qo]) (rest := []) ⟨hx, hb, hml, hown, hts⟩ (c_L_symbol l hnt dC dI a0 x0 qm qt qw qc qb qg qo cL ((xs ((1 : Int32).toNatClampNeg))) ((xs ((2 : Int32).toNatClampNeg))) ((xs ((3 : Int32).toNatClampNeg))) H.size ) (vx_cwSW 5 hts (goodIn_of _ (by decide +kernel)) rfl rfl rfl (by decide +kernel) ⟨Nat.le_of_ble_eq_true rfl, Nat.le_of_ble_eq_true rfl⟩) ⟨fun a U g mk q => by obtain ⟨q0, q1, qP, qK, qD, qZ⟩ := q; exact ⟨q0, q1, qP, va_K.moved (u := U) (U := U.calling g mk a) (Vm.Alike.refl U.vm) qK, qD, qZ.call⟩, fun U hU hW => ⟨rfl, by rw [hU], by rw [hU]; exact hPc, va_K.moved hW.alike hKc, hDc.weaken (fun _ _ _ _ => trivial), by rw [hU]; exact hZc.warm hW⟩⟩ rfl rfl hl.1 rfl (lv_room (Nat.le_of_ble_eq_true rfl)) dL_law_1070 ⟨Nat.le_of_ble_eq_true rfl, Nat.le_of_ble_eq_true rfl⟩) hS (fun q _ h => hFc q h) hFc (fun r_4 u t H1 locs ht hvm hw hB hz1 hk1 hS => ?_)
  obtain ⟨hP1, hK1, hD1⟩ := hB
  rw [ht] at hP1
  have hK1 := va_K.moved hvm.symm hK1
  obtain ⟨hP, hD⟩ := va_join (wr := [(qm, .inl (cM, 12, .inr (.inr (.inr (.inr (fun _ => none)))))), (qt, .inl (cT, 4, .inr (.inr (.inr (.inr (fun _ => none)))))), (m0, .inr (12, [.int 0, .ref l1, .ref l2, .int 0, .int 0, .int 0, .long 0])), (l1, .inr (1, [.int 0, .ref a0, .int 0])), (l2, .inr (1, [.int 0, .ref a0, .int 0])), (qd, .inl (cD, 1, .inr (.inr (.inr (.inl (fun _ => 0))))))]) (w1 := []) hP hD [0, 6] [1, 2, 3, 4, 5, 7] rfl rfl (by decide) (by decide) hk1 hFc hP1 hD1
  have hK := (hK.sub (tys' := [(cM, .object "Haltingale$Machine"), (cT, .object "Haltingale$Tag"), (cL, .long), (cD, .double)]) [0, 1, 2, 3] rfl).app hK1
  generalize H1 = H at hP hS ⊢
  have hP : va_P (dC, dI) vwCl [(qm, .inl (cM, 12, .inr (.inr (.inr (.inr (fun _ => none)))))), (qt, .inl (cT, 4, .inr (.inr (.inr (.inr (fun _ => none)))))), (m0, .inr (12, [.int 0, .ref l1, .ref l2, .int 0, .int 0, .int 0, .long 0])), (l1, .inr (1, [.int 0, .ref a0, .int 0])), (l2, .inr (1, [.int 0, .ref a0, .int 0])), (qd, .inl (cD, 1, .inr (.inr (.inr (.inl (fun _ => 0))))))] H := hP
  have hD : va_D A [(qm, .inl (cM, 12, .inr (.inr (.inr (.inr (fun _ => none)))))), (qt, .inl (cT, 4, .inr (.inr (.inr (.inr (fun _ => none)))))), (m0, .inr (12, [.int 0, .ref l1, .ref l2, .int 0, .int 0, .int 0, .long 0])), (l1, .inr (1, [.int 0, .ref a0, .int 0])), (l2, .inr (1, [.int 0, .ref a0, .int 0])), (qd, .inl (cD, 1, .inr (.inr (.inr (.inl (fun _ => 0))))))] := hD
  have hK : va_K (dC, dI) vwCl [(cM, .object "Haltingale$Machine"), (cT, .object "Haltingale$Tag"), (cL, .long), (cD, .double)] s := hK
  refine W.widen (k := 32) (n := 4330) (Nat.le_of_ble_eq_true rfl) (Nat.le_of_ble_eq_true rfl) ?_
  obtain rfl : r_4 = 1 := hw
  refine lv_istore (lv' := [(6, .int 1), (5, .int 0), (4, .ref qd), (3, .ref qo), (2, .ref m0), (1, .ref x0), (0, .ref b)]) hx hb dL_law_1073 hl (by decide) rfl (fun ls hl => ?_)
  refine lv_aload_n hx hb dL_law_1075 rfl (lv_at hl 4 rfl) ?_
  refine lv_aload_n hx hb dL_law_1076 rfl (lv_at hl 6 rfl) ?_
  refine lv_iload hx hb dL_law_1077 (lv_at hl 1 rfl) ?_
  refine lv_iconst (v := 1) hx hb dL_law_1079 (by decide) ?_
  refine lv_iadd hx hb dL_law_1080 ?_
  refine lv_topi (fun x_5 ex_5 => ?_)
  obtain rfl : x_5 = 1 := ex_5.trans (by decide)
  refine va_sld hx hb hX hbl hbA hS (by unfold vp_in; decide) dL_law_1081 ?_
  refine lv_aload_n hx hb dL_law_1082 rfl (lv_at hl 6 rfl) ?_
  refine lv_iload hx hb dL_law_1083 (lv_at hl 1 rfl) ?_
  refine lv_iconst (v := 2) hx hb dL_law_1085 (by decide) ?_
  refine lv_iadd hx hb dL_law_1086 ?_
  refine lv_topi (fun x_6 ex_6 => ?_)
  obtain rfl : x_6 = 2 := ex_6.trans (by decide)
  refine va_sld hx hb hX hbl hbA hS (by unfold vp_in; decide) dL_law_1087 ?_
  refine lv_aload_n hx hb dL_law_1088 rfl (lv_at hl 6 rfl) ?_
  refine lv_iload hx hb dL_law_1089 (lv_at hl 1 rfl) ?_
  refine lv_iconst (v := 3) hx hb dL_law_1091 (by decide) ?_
  refine lv_iadd hx hb dL_law_1092 ?_
  refine lv_topi (fun x_7 ex_7 => ?_)
  obtain rfl : x_7 = 3 := ex_7.trans (by decide)
  refine va_sld hx hb hX hbl hbA hS (by unfold vp_in; decide) dL_law_1093 ?_
  have hPc := hP.sub (ws' := [(m0, .inr (12, [.int 0, .ref l1, .ref l2, .int 0, .int 0, .int 0, .long 0])), (l1, .inr (1, [.int 0, .ref a0, .int 0]))]) [2, 3] rfl
  have hDc := hD.sub (ws' := [(m0, .inr (12, [.int 0, .ref l1, .ref l2, .int 0, .int 0, .int 0, .long 0])), (l1, .inr (1, [.int 0, .ref a0, .int 0]))]) [2, 3] (by decide) rfl
  have hKc := hK.sub (tys' := []) [] rfl
  have hFc := va_free (wc := [(m0, .inr (12, [.int 0, .ref l1, .ref l2, .int 0, .int 0, .int 0, .long 0])), (l1, .inr (1, [.int 0, .ref a0, .int 0]))]) hD hS hA [2, 3] rfl
  have hZc := ((hZ.kept hS.2.1).narrow hFc)
  refine va_calli (va_runV (As := [.int (xs ((1 : Int32).toNatClampNeg)), .int (xs ((2 : Int32).toNatClampNeg)), .int (xs ((3 : Int32).toNatClampNeg))]) (rest := []) ⟨hx, hb, hml, hown, hts⟩ (c_X10_symbol l hnt dC dI a0 m0 l1 l2 ((xs ((1 : Int32).toNatClampNeg))) ((xs ((2 : Int32).toNatClampNeg))) ((xs ((3 : Int32).toNatClampNeg))) H.size ) (cwV 3 hts (goodIn_of _ (by decide +kernel)) rfl rfl rfl (by decide +kernel) ⟨Nat.le_of_ble_eq_true rfl, Nat.le_of_ble_eq_true rfl⟩) ⟨fun a U g mk q => by obtain ⟨q0, q1, qP, qK, qD, qZ⟩ := q; exact ⟨q0, q1, qP, va_K.moved (u := U) (U := U.calling g mk a) (Vm.Alike.refl U.vm) qK, qD, qZ.call⟩, va_recv hKc hPc (ci := 12) (q0 := 0) rfl rfl, fun U hU hW => ⟨rfl, by rw [hU], by rw [hU]; exact hPc, va_K.moved hW.alike hKc, hDc.weaken (fun _ _ _ _ => trivial), by rw [hU]; exact hZc.warm hW⟩⟩ rfl rfl hl.1 rfl (lv_room (Nat.le_of_ble_eq_true rfl)) dL_law_1094 ⟨Nat.le_of_ble_eq_true rfl, Nat.le_of_ble_eq_true rfl⟩) hS (fun q _ h => hFc q h) hFc (fun r_8 u t H1 locs ht hvm hw hB hz1 hk1 hS => ?_)
  obtain ⟨hP1, hK1, hD1⟩ := hB
  rw [ht] at hP1
  have hK1 := va_K.moved hvm.symm hK1
  obtain ⟨hP, hD⟩ := va_join (wr := [(qm, .inl (cM, 12, .inr (.inr (.inr (.inr (fun _ => none)))))), (qt, .inl (cT, 4, .inr (.inr (.inr (.inr (fun _ => none)))))), (l2, .inr (1, [.int 0, .ref a0, .int 0])), (qd, .inl (cD, 1, .inr (.inr (.inr (.inl (fun _ => 0))))))]) (w1 := [(m0, .inr (12, [.int 1, .ref l1, .ref l2, .int 0, .int 0, .int 0, .long 0]))]) hP hD [2, 3] [0, 1, 4, 5] rfl rfl (by decide) (by decide) hk1 hFc hP1 hD1
  have hK := (hK.sub (tys' := [(cM, .object "Haltingale$Machine"), (cT, .object "Haltingale$Tag"), (cL, .long), (cD, .double)]) [0, 1, 2, 3] rfl).app hK1
  generalize H1 = H at hP hS ⊢
  have hP : va_P (dC, dI) vwCl [(qm, .inl (cM, 12, .inr (.inr (.inr (.inr (fun _ => none)))))), (qt, .inl (cT, 4, .inr (.inr (.inr (.inr (fun _ => none)))))), (l2, .inr (1, [.int 0, .ref a0, .int 0])), (qd, .inl (cD, 1, .inr (.inr (.inr (.inl (fun _ => 0)))))), (m0, .inr (12, [.int 1, .ref l1, .ref l2, .int 0, .int 0, .int 0, .long 0]))] H := hP
  have hD : va_D A [(qm, .inl (cM, 12, .inr (.inr (.inr (.inr (fun _ => none)))))), (qt, .inl (cT, 4, .inr (.inr (.inr (.inr (fun _ => none)))))), (l2, .inr (1, [.int 0, .ref a0, .int 0])), (qd, .inl (cD, 1, .inr (.inr (.inr (.inl (fun _ => 0)))))), (m0, .inr (12, [.int 1, .ref l1, .ref l2, .int 0, .int 0, .int 0, .long 0]))] := hD
  have hK : va_K (dC, dI) vwCl [(cM, .object "Haltingale$Machine"), (cT, .object "Haltingale$Tag"), (cL, .long), (cD, .double)] s := hK
  refine W.widen (k := 32) (n := 4330) (Nat.le_of_ble_eq_true rfl) (Nat.le_of_ble_eq_true rfl) ?_
  obtain rfl : r_8 = 0 := hw
  refine lv_istore (lv' := [(7, .int 0), (6, .int 1), (5, .int 0), (4, .ref qd), (3, .ref qo), (2, .ref m0), (1, .ref x0), (0, .ref b)]) hx hb dL_law_1097 hl (by decide) rfl (fun ls hl => ?_)
  refine lv_aload_n hx hb dL_law_1099 rfl (lv_at hl 5 rfl) ?_
  have hPc := hP.sub (ws' := [(m0, .inr (12, [.int 1, .ref l1, .ref l2, .int 0, .int 0, .int 0, .long 0]))]) [4] rfl
  have hDc := hD.sub (ws' := [(m0, .inr (12, [.int 1, .ref l1, .ref l2, .int 0, .int 0, .int 0, .long 0]))]) [4] (by decide) rfl
  have hKc := hK.sub (tys' := []) [] rfl
  have hFc := va_free (wc := [(m0, .inr (12, [.int 1, .ref l1, .ref l2, .int 0, .int 0, .int 0, .long 0]))]) hD hS hA [4] rfl
  have hZc := ((hZ.kept hS.2.1).narrow hFc)
  refine va_calli (va_runV (As := []) (rest := []) ⟨hx, hb, hml, hown, hts⟩ (c_X10_thrown l hnt dC dI a0 m0 l1 l2 1 H.size ) (cwV 0 hts (goodIn_of _ (by decide +kernel)) rfl rfl rfl (by decide +kernel) ⟨Nat.le_of_ble_eq_true rfl, Nat.le_of_ble_eq_true rfl⟩) ⟨fun a U g mk q => by obtain ⟨q0, q1, qP, qK, qD, qZ⟩ := q; exact ⟨q0, q1, qP, va_K.moved (u := U) (U := U.calling g mk a) (Vm.Alike.refl U.vm) qK, qD, qZ.call⟩, va_recv hKc hPc (ci := 12) (q0 := 0) rfl rfl, fun U hU hW => ⟨rfl, by rw [hU], by rw [hU]; exact hPc, va_K.moved hW.alike hKc, hDc.weaken (fun _ _ _ _ => trivial), by rw [hU]; exact hZc.warm hW⟩⟩ rfl rfl hl.1 rfl (lv_room (Nat.le_of_ble_eq_true rfl)) dL_law_1100 ⟨Nat.le_of_ble_eq_true rfl, Nat.le_of_ble_eq_true rfl⟩) hS (fun q _ h => hFc q h) hFc (fun r_9 u t H1 locs ht hvm hw hB hz1 hk1 hS => ?_)
  obtain ⟨hP1, hK1, hD1⟩ := hB
  rw [ht] at hP1
  have hK1 := va_K.moved hvm.symm hK1
  obtain ⟨hP, hD⟩ := va_join (wr := [(qm, .inl (cM, 12, .inr (.inr (.inr (.inr (fun _ => none)))))), (qt, .inl (cT, 4, .inr (.inr (.inr (.inr (fun _ => none)))))), (l2, .inr (1, [.int 0, .ref a0, .int 0])), (qd, .inl (cD, 1, .inr (.inr (.inr (.inl (fun _ => 0))))))]) (w1 := []) hP hD [4] [0, 1, 2, 3] rfl rfl (by decide) (by decide) hk1 hFc hP1 hD1
  have hK := (hK.sub (tys' := [(cM, .object "Haltingale$Machine"), (cT, .object "Haltingale$Tag"), (cL, .long), (cD, .double)]) [0, 1, 2, 3] rfl).app hK1
  generalize H1 = H at hP hS ⊢
  have hP : va_P (dC, dI) vwCl [(qm, .inl (cM, 12, .inr (.inr (.inr (.inr (fun _ => none)))))), (qt, .inl (cT, 4, .inr (.inr (.inr (.inr (fun _ => none)))))), (l2, .inr (1, [.int 0, .ref a0, .int 0])), (qd, .inl (cD, 1, .inr (.inr (.inr (.inl (fun _ => 0))))))] H := hP
  have hD : va_D A [(qm, .inl (cM, 12, .inr (.inr (.inr (.inr (fun _ => none)))))), (qt, .inl (cT, 4, .inr (.inr (.inr (.inr (fun _ => none)))))), (l2, .inr (1, [.int 0, .ref a0, .int 0])), (qd, .inl (cD, 1, .inr (.inr (.inr (.inl (fun _ => 0))))))] := hD
  have hK : va_K (dC, dI) vwCl [(cM, .object "Haltingale$Machine"), (cT, .object "Haltingale$Tag"), (cL, .long), (cD, .double)] s := hK
  refine W.widen (k := 32) (n := 4330) (Nat.le_of_ble_eq_true rfl) (Nat.le_of_ble_eq_true rfl) ?_
  obtain rfl : r_9 = 1 := hw
  refine lv_iload hx hb dL_law_1103 (lv_at hl 1 rfl) ?_
  refine lv_icmp_eq (tgt := 1110) hx hb dL_law_1105 (by decide) (fun c_10 => ?_) (fun c_10 => ?_)
  rotate_left
  · (first | exact absurd c_10 (by decide) | exact absurd (by decide) c_10)
  refine lv_iload hx hb dL_law_1110 (lv_at hl 1 rfl) ?_
  refine lv_if_ne (tgt := 1127) hx hb dL_law_1112 (by decide) (fun c_11 => ?_) (fun c_11 => ?_)
  rotate_left
  · (first | exact absurd c_11 (by decide) | exact absurd (by decide) c_11)
  refine lv_goto (tgt := 1806) hx hb dL_law_1127 (by decide) ?_
  refine lv_iinc (v := 7) (lv' := [(5, .int 7), (7, .int 0), (6, .int 1), (4, .ref qd), (3, .ref qo), (2, .ref m0), (1, .ref x0), (0, .ref b)]) hx hb dL_law_1806 hl (k := 2) rfl (by decide) (by decide) rfl (fun ls hl => ?_)
  refine lv_goto (tgt := 28) hx hb dL_law_1809 (by decide) ?_
  refine lv_iload hx hb dL_law_28 (lv_at hl 0 rfl) ?_
  refine lv_aload_n hx hb dL_law_30 rfl (lv_at hl 7 rfl) ?_
  refine va_slen hx hb hX hbl hbA hS dL_law_31 ?_
  refine lv_topi (fun x_12 ex_12 => ?_)
  obtain rfl : x_12 = 7 := ex_12.trans (by decide)
  refine lv_bipush (v := 7) hx hb dL_law_32 (by decide) ?_
  refine lv_isub hx hb dL_law_34 ?_
  refine lv_topi (fun x_13 ex_13 => ?_)
  obtain rfl : x_13 = 0 := ex_13.trans (by decide)
  refine lv_icmp_gt (tgt := 1812) hx hb dL_law_35 (by decide) (fun c_14 => ?_) (fun c_14 => ?_)
  rotate_left
  · (first | exact absurd c_14 (by decide) | exact absurd (by decide) c_14)
  refine lv_iconst (v := 1) hx hb dL_law_1812 (by decide) ?_
  refine va_forget (fun q hq => hA2 _ (hS.2.2 q hq)) ?_
  refine W.widen (k := room_1.cells) (n := room_1.slots) (Nat.le_of_ble_eq_true rfl) (Nat.le_of_ble_eq_true rfl) ?_
  exact lw_ret0 hx hb hr hlocks dL_law_1813

set_option maxHeartbeats 4000000 in
set_option maxRecDepth 100000 in
/-- the law, case 12 -/
theorem law_12 {p : Program} {l : Launch} (hnt : l.stackTraces = false) {e : Env} {s : State} {m : MethodId} {below : List Frame} {meth : Method} {c : Code} {dC : Nat → ClassId} {dI : Nat → Nat → Nat} {a0 b : Nat} {xs : Nat → Int32} (C0 : lw_At p s m meth c b 7 xs) {A : Nat → Prop} (hA : ∀ q : Nat, s.heap.size ≤ q → A q) (hA2 : ∀ q : Nat, A q → s.heap.size ≤ q) (hZ : zB a0 A s s.heap) {x0 : Nat} {qm : Nat} {qt : Nat} {qw : Nat} {qc : Nat} {qb : Nat} {qg : Nat} {m0 : Nat} {l1 : Nat} {l2 : Nat} {qo : Nat} {qd : Nat} {cM : ClassId} {cT : ClassId} {cL : ClassId} {cD : ClassId} {H : Heap} {locs : List Loc} (hK : va_K (dC, dI) vwCl [(cM, .object "Haltingale$Machine"), (cT, .object "Haltingale$Tag"), (cL, .long), (cD, .double)] s) (hP : va_P (dC, dI) vwCl [(x0, .inr (9, [.ref qm, .ref qt, .ref qw, .ref qc, .ref qb, .ref qg, .int 0, .int 0, .int 0, .int 0, .int 0])), (qm, .inl (cM, 12, .inr (.inr (.inr (.inr (fun _ => none)))))), (qt, .inl (cT, 4, .inr (.inr (.inr (.inr (fun _ => none)))))), (m0, .inr (12, [.int 0, .ref l1, .ref l2, .int 0, .int 0, .int 0, .long 0])), (l1, .inr (1, [.int 0, .ref a0, .int 0])), (l2, .inr (1, [.int 0, .ref a0, .int 0])), (qo, .inl (cL, 1, .inr (.inl (fun _ => 0)))), (qd, .inl (cD, 1, .inr (.inr (.inr (.inl (fun _ => 0))))))] H) (hD : va_D A [(x0, .inr (9, [.ref qm, .ref qt, .ref qw, .ref qc, .ref qb, .ref qg, .int 0, .int 0, .int 0, .int 0, .int 0])), (qm, .inl (cM, 12, .inr (.inr (.inr (.inr (fun _ => none)))))), (qt, .inl (cT, 4, .inr (.inr (.inr (.inr (fun _ => none)))))), (m0, .inr (12, [.int 0, .ref l1, .ref l2, .int 0, .int 0, .int 0, .long 0])), (l1, .inr (1, [.int 0, .ref a0, .int 0])), (l2, .inr (1, [.int 0, .ref a0, .int 0])), (qo, .inl (cL, 1, .inr (.inl (fun _ => 0)))), (qd, .inl (cD, 1, .inr (.inr (.inr (.inl (fun _ => 0))))))]) (hS : va_S A s.heap H locs) {ls : Array Slot} (hl : lv_has ls 10 [(5, .int 0), (4, .ref qd), (3, .ref qo), (2, .ref m0), (1, .ref x0), (0, .ref b)])  : W p l e room_1 s m #[Value.ref b] below meth c H locs 31 4324 (lw_Z below #[Value.ref b] s) (F0 m 1130 ls []) := by
  obtain ⟨hx, hb, hr, hml, hown, hts0, hX, hbl, hlocks, hgv⟩ := C0
  have hts : ∀ w ∈ zs_law, w.before #[Value.ref b] s = true := fun w h => hts0 w (zs_law_in w h)
  have hbA : ¬ A b := fun h => absurd (hA2 b h) (Nat.not_le.mpr hbl)
  refine lv_aload_n hx hb dL_law_1130 rfl (lv_at hl 4 rfl) ?_
  refine lv_aload_n hx hb dL_law_1131 rfl (lv_at hl 5 rfl) ?_
  refine lv_iload hx hb dL_law_1132 (lv_at hl 0 rfl) ?_
  refine lv_iconst (v := 1) hx hb dL_law_1134 (by decide) ?_
  refine lv_iadd hx hb dL_law_1135 ?_
  refine lv_topi (fun x_1 ex_1 => ?_)
  obtain rfl : x_1 = 1 := ex_1.trans (by decide)
  refine va_sld hx hb hX hbl hbA hS (by unfold vp_in; decide) dL_law_1136 ?_
  refine lv_aload_n hx hb dL_law_1137 rfl (lv_at hl 5 rfl) ?_
  refine lv_iload hx hb dL_law_1138 (lv_at hl 0 rfl) ?_
  refine lv_iconst (v := 2) hx hb dL_law_1140 (by decide) ?_
  refine lv_iadd hx hb dL_law_1141 ?_
  refine lv_topi (fun x_2 ex_2 => ?_)
  obtain rfl : x_2 = 2 := ex_2.trans (by decide)
  refine va_sld hx hb hX hbl hbA hS (by unfold vp_in; decide) dL_law_1142 ?_
  refine lv_aload hx hb dL_law_1143 (lv_at hl 1 rfl) ?_
  have hPc := hP.sub (ws' := [(x0, .inr (9, [.ref qm, .ref qt, .ref qw, .ref qc, .ref qb, .ref qg, .int 0, .int 0, .int 0, .int 0, .int 0])), (qd, .inl (cD, 1, .inr (.inr (.inr (.inl (fun _ => 0))))))]) [0, 7] rfl
  have hDc := hD.sub (ws' := [(x0, .inr (9, [.ref qm, .ref qt, .ref qw, .ref qc, .ref qb, .ref qg, .int 0, .int 0, .int 0, .int 0, .int 0])), (qd, .inl (cD, 1, .inr (.inr (.inr (.inl (fun _ => 0))))))]) [0, 7] (by decide) rfl
  have hKc := hK.sub (tys' := [(cD, .double)]) [3] rfl
  have hFc := va_free (wc := [(x0, .inr (9, [.ref qm, .ref qt, .ref qw, .ref qc, .ref qb, .ref qg, .int 0, .int 0, .int 0, .int 0, .int 0])), (qd, .inl (cD, 1, .inr (.inr (.inr (.inl (fun _ => 0))))))]) hD hS hA [0, 7] rfl
  have hZc := ((hZ.kept hS.2.1).narrow hFc)
  refine va_calli (vx_runSW (As := [.ref x0, .int (xs ((1 : Int32).toNatClampNeg)), .int (xs ((2 : Int32).toNatClampNeg)), .ref qd]) (rest := []) ⟨hx, hb, hml, hown, hts⟩ (c_L_lean l hnt dC dI a0 x0 qm qt qw qc qb qg qd cD ((xs ((1 : Int32).toNatClampNeg))) ((xs ((2 : Int32).toNatClampNeg))) H.size ) (vx_cwSW 4 hts (goodIn_of _ (by decide +kernel)) rfl rfl rfl (by decide +kernel) ⟨Nat.le_of_ble_eq_true rfl, Nat.le_of_ble_eq_true rfl⟩) ⟨fun a U g mk q => by obtain ⟨q0, q1, qP, qK, qD, qZ⟩ := q; exact ⟨q0, q1, qP, va_K.moved (u := U) (U := U.calling g mk a) (Vm.Alike.refl U.vm) qK, qD, qZ.call⟩, fun U hU hW => ⟨rfl, by rw [hU], by rw [hU]; exact hPc, va_K.moved hW.alike hKc, hDc.weaken (fun _ _ _ _ => trivial), by rw [hU]; exact hZc.warm hW⟩⟩ rfl rfl hl.1 rfl (lv_room (Nat.le_of_ble_eq_true rfl)) dL_law_1145 ⟨Nat.le_of_ble_eq_true rfl, Nat.le_of_ble_eq_true rfl⟩) hS (fun q _ h => hFc q h) hFc (fun r_3 u t H1 locs ht hvm hw hB hz1 hk1 hS => ?_)
  obtain ⟨hP1, hK1, hD1⟩ := hB
  rw [ht] at hP1
  have hK1 := va_K.moved hvm.symm hK1
  obtain ⟨hP, hD⟩ := va_join (wr := [(qm, .inl (cM, 12, .inr (.inr (.inr (.inr (fun _ => none)))))), (qt, .inl (cT, 4, .inr (.inr (.inr (.inr (fun _ => none)))))), (m0, .inr (12, [.int 0, .ref l1, .ref l2, .int 0, .int 0, .int 0, .long 0])), (l1, .inr (1, [.int 0, .ref a0, .int 0])), (l2, .inr (1, [.int 0, .ref a0, .int 0])), (qo, .inl (cL, 1, .inr (.inl (fun _ => 0))))]) (w1 := []) hP hD [0, 7] [1, 2, 3, 4, 5, 6] rfl rfl (by decide) (by decide) hk1 hFc hP1 hD1
  have hK := (hK.sub (tys' := [(cM, .object "Haltingale$Machine"), (cT, .object "Haltingale$Tag"), (cL, .long), (cD, .double)]) [0, 1, 2, 3] rfl).app hK1
  generalize H1 = H at hP hS ⊢
  have hP : va_P (dC, dI) vwCl [(qm, .inl (cM, 12, .inr (.inr (.inr (.inr (fun _ => none)))))), (qt, .inl (cT, 4, .inr (.inr (.inr (.inr (fun _ => none)))))), (m0, .inr (12, [.int 0, .ref l1, .ref l2, .int 0, .int 0, .int 0, .long 0])), (l1, .inr (1, [.int 0, .ref a0, .int 0])), (l2, .inr (1, [.int 0, .ref a0, .int 0])), (qo, .inl (cL, 1, .inr (.inl (fun _ => 0))))] H := hP
  have hD : va_D A [(qm, .inl (cM, 12, .inr (.inr (.inr (.inr (fun _ => none)))))), (qt, .inl (cT, 4, .inr (.inr (.inr (.inr (fun _ => none)))))), (m0, .inr (12, [.int 0, .ref l1, .ref l2, .int 0, .int 0, .int 0, .long 0])), (l1, .inr (1, [.int 0, .ref a0, .int 0])), (l2, .inr (1, [.int 0, .ref a0, .int 0])), (qo, .inl (cL, 1, .inr (.inl (fun _ => 0))))] := hD
  have hK : va_K (dC, dI) vwCl [(cM, .object "Haltingale$Machine"), (cT, .object "Haltingale$Tag"), (cL, .long), (cD, .double)] s := hK
  refine W.widen (k := 32) (n := 4330) (Nat.le_of_ble_eq_true rfl) (Nat.le_of_ble_eq_true rfl) ?_
  obtain rfl : r_3 = 1 := hw
  refine lv_istore (lv' := [(6, .int 1), (5, .int 0), (4, .ref qd), (3, .ref qo), (2, .ref m0), (1, .ref x0), (0, .ref b)]) hx hb dL_law_1148 hl (by decide) rfl (fun ls hl => ?_)
  refine lv_aload_n hx hb dL_law_1150 rfl (lv_at hl 4 rfl) ?_
  refine lv_aload_n hx hb dL_law_1151 rfl (lv_at hl 6 rfl) ?_
  refine lv_iload hx hb dL_law_1152 (lv_at hl 1 rfl) ?_
  refine lv_iconst (v := 1) hx hb dL_law_1154 (by decide) ?_
  refine lv_iadd hx hb dL_law_1155 ?_
  refine lv_topi (fun x_4 ex_4 => ?_)
  obtain rfl : x_4 = 1 := ex_4.trans (by decide)
  refine va_sld hx hb hX hbl hbA hS (by unfold vp_in; decide) dL_law_1156 ?_
  refine lv_aload_n hx hb dL_law_1157 rfl (lv_at hl 6 rfl) ?_
  refine lv_iload hx hb dL_law_1158 (lv_at hl 1 rfl) ?_
  refine lv_iconst (v := 2) hx hb dL_law_1160 (by decide) ?_
  refine lv_iadd hx hb dL_law_1161 ?_
  refine lv_topi (fun x_5 ex_5 => ?_)
  obtain rfl : x_5 = 2 := ex_5.trans (by decide)
  refine va_sld hx hb hX hbl hbA hS (by unfold vp_in; decide) dL_law_1162 ?_
  have hPc := hP.sub (ws' := [(m0, .inr (12, [.int 0, .ref l1, .ref l2, .int 0, .int 0, .int 0, .long 0])), (l1, .inr (1, [.int 0, .ref a0, .int 0]))]) [2, 3] rfl
  have hDc := hD.sub (ws' := [(m0, .inr (12, [.int 0, .ref l1, .ref l2, .int 0, .int 0, .int 0, .long 0])), (l1, .inr (1, [.int 0, .ref a0, .int 0]))]) [2, 3] (by decide) rfl
  have hKc := hK.sub (tys' := []) [] rfl
  have hFc := va_free (wc := [(m0, .inr (12, [.int 0, .ref l1, .ref l2, .int 0, .int 0, .int 0, .long 0])), (l1, .inr (1, [.int 0, .ref a0, .int 0]))]) hD hS hA [2, 3] rfl
  have hZc := ((hZ.kept hS.2.1).narrow hFc)
  refine va_calld (va_runV (As := [.int (xs ((1 : Int32).toNatClampNeg)), .int (xs ((2 : Int32).toNatClampNeg))]) (rest := []) ⟨hx, hb, hml, hown, hts⟩ (c_X10_lean l hnt dC dI a0 m0 l1 l2 ((xs ((1 : Int32).toNatClampNeg))) ((xs ((2 : Int32).toNatClampNeg))) H.size ) (cwV 2 hts (goodIn_of _ (by decide +kernel)) rfl rfl rfl (by decide +kernel) ⟨Nat.le_of_ble_eq_true rfl, Nat.le_of_ble_eq_true rfl⟩) ⟨fun a U g mk q => by obtain ⟨q0, q1, qP, qK, qD, qZ⟩ := q; exact ⟨q0, q1, qP, va_K.moved (u := U) (U := U.calling g mk a) (Vm.Alike.refl U.vm) qK, qD, qZ.call⟩, va_recv hKc hPc (ci := 12) (q0 := 0) rfl rfl, fun U hU hW => ⟨rfl, by rw [hU], by rw [hU]; exact hPc, va_K.moved hW.alike hKc, hDc.weaken (fun _ _ _ _ => trivial), by rw [hU]; exact hZc.warm hW⟩⟩ rfl rfl hl.1 rfl (lv_room (Nat.le_of_ble_eq_true rfl)) dL_law_1163 ⟨Nat.le_of_ble_eq_true rfl, Nat.le_of_ble_eq_true rfl⟩) hS (fun q _ h => hFc q h) hFc (fun r_6 u t H1 locs ht hvm hw hB hz1 hk1 hS => ?_)
  obtain ⟨hP1, hK1, hD1⟩ := hB
  rw [ht] at hP1
  have hK1 := va_K.moved hvm.symm hK1
  obtain ⟨hP, hD⟩ := va_join (wr := [(qm, .inl (cM, 12, .inr (.inr (.inr (.inr (fun _ => none)))))), (qt, .inl (cT, 4, .inr (.inr (.inr (.inr (fun _ => none)))))), (l2, .inr (1, [.int 0, .ref a0, .int 0])), (qo, .inl (cL, 1, .inr (.inl (fun _ => 0))))]) (w1 := [(m0, .inr (12, [.int 1, .ref l1, .ref l2, .int 0, .int 0, .int 0, .long 0]))]) hP hD [2, 3] [0, 1, 4, 5] rfl rfl (by decide) (by decide) hk1 hFc hP1 hD1
  have hK := (hK.sub (tys' := [(cM, .object "Haltingale$Machine"), (cT, .object "Haltingale$Tag"), (cL, .long), (cD, .double)]) [0, 1, 2, 3] rfl).app hK1
  generalize H1 = H at hP hS ⊢
  have hP : va_P (dC, dI) vwCl [(qm, .inl (cM, 12, .inr (.inr (.inr (.inr (fun _ => none)))))), (qt, .inl (cT, 4, .inr (.inr (.inr (.inr (fun _ => none)))))), (l2, .inr (1, [.int 0, .ref a0, .int 0])), (qo, .inl (cL, 1, .inr (.inl (fun _ => 0)))), (m0, .inr (12, [.int 1, .ref l1, .ref l2, .int 0, .int 0, .int 0, .long 0]))] H := hP
  have hD : va_D A [(qm, .inl (cM, 12, .inr (.inr (.inr (.inr (fun _ => none)))))), (qt, .inl (cT, 4, .inr (.inr (.inr (.inr (fun _ => none)))))), (l2, .inr (1, [.int 0, .ref a0, .int 0])), (qo, .inl (cL, 1, .inr (.inl (fun _ => 0)))), (m0, .inr (12, [.int 1, .ref l1, .ref l2, .int 0, .int 0, .int 0, .long 0]))] := hD
  have hK : va_K (dC, dI) vwCl [(cM, .object "Haltingale$Machine"), (cT, .object "Haltingale$Tag"), (cL, .long), (cD, .double)] s := hK
  refine W.widen (k := 32) (n := 4330) (Nat.le_of_ble_eq_true rfl) (Nat.le_of_ble_eq_true rfl) ?_
  obtain rfl : r_6 = FP.dconst0 := hw
  refine lv_dstore (lv' := [(7, .double FP.dconst0), (6, .int 1), (5, .int 0), (4, .ref qd), (3, .ref qo), (2, .ref m0), (1, .ref x0), (0, .ref b)]) hx hb dL_law_1166 hl (by decide) rfl (fun ls hl => ?_)
  refine lv_aload_n hx hb dL_law_1168 rfl (lv_at hl 5 rfl) ?_
  have hPc := hP.sub (ws' := [(m0, .inr (12, [.int 1, .ref l1, .ref l2, .int 0, .int 0, .int 0, .long 0]))]) [4] rfl
  have hDc := hD.sub (ws' := [(m0, .inr (12, [.int 1, .ref l1, .ref l2, .int 0, .int 0, .int 0, .long 0]))]) [4] (by decide) rfl
  have hKc := hK.sub (tys' := []) [] rfl
  have hFc := va_free (wc := [(m0, .inr (12, [.int 1, .ref l1, .ref l2, .int 0, .int 0, .int 0, .long 0]))]) hD hS hA [4] rfl
  have hZc := ((hZ.kept hS.2.1).narrow hFc)
  refine va_calli (va_runV (As := []) (rest := []) ⟨hx, hb, hml, hown, hts⟩ (c_X10_thrown l hnt dC dI a0 m0 l1 l2 1 H.size ) (cwV 0 hts (goodIn_of _ (by decide +kernel)) rfl rfl rfl (by decide +kernel) ⟨Nat.le_of_ble_eq_true rfl, Nat.le_of_ble_eq_true rfl⟩) ⟨fun a U g mk q => by obtain ⟨q0, q1, qP, qK, qD, qZ⟩ := q; exact ⟨q0, q1, qP, va_K.moved (u := U) (U := U.calling g mk a) (Vm.Alike.refl U.vm) qK, qD, qZ.call⟩, va_recv hKc hPc (ci := 12) (q0 := 0) rfl rfl, fun U hU hW => ⟨rfl, by rw [hU], by rw [hU]; exact hPc, va_K.moved hW.alike hKc, hDc.weaken (fun _ _ _ _ => trivial), by rw [hU]; exact hZc.warm hW⟩⟩ rfl rfl hl.1 rfl (lv_room (Nat.le_of_ble_eq_true rfl)) dL_law_1169 ⟨Nat.le_of_ble_eq_true rfl, Nat.le_of_ble_eq_true rfl⟩) hS (fun q _ h => hFc q h) hFc (fun r_7 u t H1 locs ht hvm hw hB hz1 hk1 hS => ?_)
  obtain ⟨hP1, hK1, hD1⟩ := hB
  rw [ht] at hP1
  have hK1 := va_K.moved hvm.symm hK1
  obtain ⟨hP, hD⟩ := va_join (wr := [(qm, .inl (cM, 12, .inr (.inr (.inr (.inr (fun _ => none)))))), (qt, .inl (cT, 4, .inr (.inr (.inr (.inr (fun _ => none)))))), (l2, .inr (1, [.int 0, .ref a0, .int 0])), (qo, .inl (cL, 1, .inr (.inl (fun _ => 0))))]) (w1 := []) hP hD [4] [0, 1, 2, 3] rfl rfl (by decide) (by decide) hk1 hFc hP1 hD1
  have hK := (hK.sub (tys' := [(cM, .object "Haltingale$Machine"), (cT, .object "Haltingale$Tag"), (cL, .long), (cD, .double)]) [0, 1, 2, 3] rfl).app hK1
  generalize H1 = H at hP hS ⊢
  have hP : va_P (dC, dI) vwCl [(qm, .inl (cM, 12, .inr (.inr (.inr (.inr (fun _ => none)))))), (qt, .inl (cT, 4, .inr (.inr (.inr (.inr (fun _ => none)))))), (l2, .inr (1, [.int 0, .ref a0, .int 0])), (qo, .inl (cL, 1, .inr (.inl (fun _ => 0))))] H := hP
  have hD : va_D A [(qm, .inl (cM, 12, .inr (.inr (.inr (.inr (fun _ => none)))))), (qt, .inl (cT, 4, .inr (.inr (.inr (.inr (fun _ => none)))))), (l2, .inr (1, [.int 0, .ref a0, .int 0])), (qo, .inl (cL, 1, .inr (.inl (fun _ => 0))))] := hD
  have hK : va_K (dC, dI) vwCl [(cM, .object "Haltingale$Machine"), (cT, .object "Haltingale$Tag"), (cL, .long), (cD, .double)] s := hK
  refine W.widen (k := 32) (n := 4330) (Nat.le_of_ble_eq_true rfl) (Nat.le_of_ble_eq_true rfl) ?_
  obtain rfl : r_7 = 1 := hw
  refine lv_iload hx hb dL_law_1172 (lv_at hl 1 rfl) ?_
  refine lv_icmp_eq (tgt := 1179) hx hb dL_law_1174 (by decide) (fun c_8 => ?_) (fun c_8 => ?_)
  rotate_left
  · (first | exact absurd c_8 (by decide) | exact absurd (by decide) c_8)
  refine lv_iload hx hb dL_law_1179 (lv_at hl 1 rfl) ?_
  refine lv_if_ne (tgt := 1216) hx hb dL_law_1181 (by decide) (fun c_9 => ?_) (fun c_9 => ?_)
  rotate_left
  · (first | exact absurd c_9 (by decide) | exact absurd (by decide) c_9)
  refine lv_goto (tgt := 1806) hx hb dL_law_1216 (by decide) ?_
  refine lv_iinc (v := 7) (lv' := [(5, .int 7), (7, .double FP.dconst0), (6, .int 1), (4, .ref qd), (3, .ref qo), (2, .ref m0), (1, .ref x0), (0, .ref b)]) hx hb dL_law_1806 hl (k := 2) rfl (by decide) (by decide) rfl (fun ls hl => ?_)
  refine lv_goto (tgt := 28) hx hb dL_law_1809 (by decide) ?_
  refine lv_iload hx hb dL_law_28 (lv_at hl 0 rfl) ?_
  refine lv_aload_n hx hb dL_law_30 rfl (lv_at hl 7 rfl) ?_
  refine va_slen hx hb hX hbl hbA hS dL_law_31 ?_
  refine lv_topi (fun x_10 ex_10 => ?_)
  obtain rfl : x_10 = 7 := ex_10.trans (by decide)
  refine lv_bipush (v := 7) hx hb dL_law_32 (by decide) ?_
  refine lv_isub hx hb dL_law_34 ?_
  refine lv_topi (fun x_11 ex_11 => ?_)
  obtain rfl : x_11 = 0 := ex_11.trans (by decide)
  refine lv_icmp_gt (tgt := 1812) hx hb dL_law_35 (by decide) (fun c_12 => ?_) (fun c_12 => ?_)
  rotate_left
  · (first | exact absurd c_12 (by decide) | exact absurd (by decide) c_12)
  refine lv_iconst (v := 1) hx hb dL_law_1812 (by decide) ?_
  refine va_forget (fun q hq => hA2 _ (hS.2.2 q hq)) ?_
  refine W.widen (k := room_1.cells) (n := room_1.slots) (Nat.le_of_ble_eq_true rfl) (Nat.le_of_ble_eq_true rfl) ?_
  exact lw_ret0 hx hb hr hlocks dL_law_1813

set_option maxHeartbeats 4000000 in
set_option maxRecDepth 100000 in
/-- the law, case 13 -/
theorem law_13 {p : Program} {l : Launch} (hnt : l.stackTraces = false) {e : Env} {s : State} {m : MethodId} {below : List Frame} {meth : Method} {c : Code} {dC : Nat → ClassId} {dI : Nat → Nat → Nat} {a0 b : Nat} {xs : Nat → Int32} (C0 : lw_At p s m meth c b 7 xs) {A : Nat → Prop} (hA : ∀ q : Nat, s.heap.size ≤ q → A q) (hA2 : ∀ q : Nat, A q → s.heap.size ≤ q) (hZ : zB a0 A s s.heap) {x0 : Nat} {qm : Nat} {qt : Nat} {qw : Nat} {qc : Nat} {qb : Nat} {qg : Nat} {m0 : Nat} {l1 : Nat} {l2 : Nat} {qo : Nat} {qd : Nat} {cM : ClassId} {cT : ClassId} {cL : ClassId} {cD : ClassId} {H : Heap} {locs : List Loc} (hK : va_K (dC, dI) vwCl [(cM, .object "Haltingale$Machine"), (cT, .object "Haltingale$Tag"), (cL, .long), (cD, .double)] s) (hP : va_P (dC, dI) vwCl [(x0, .inr (9, [.ref qm, .ref qt, .ref qw, .ref qc, .ref qb, .ref qg, .int 0, .int 0, .int 0, .int 0, .int 0])), (qm, .inl (cM, 12, .inr (.inr (.inr (.inr (fun _ => none)))))), (qt, .inl (cT, 4, .inr (.inr (.inr (.inr (fun _ => none)))))), (m0, .inr (12, [.int 0, .ref l1, .ref l2, .int 0, .int 0, .int 0, .long 0])), (l1, .inr (1, [.int 0, .ref a0, .int 0])), (l2, .inr (1, [.int 0, .ref a0, .int 0])), (qo, .inl (cL, 1, .inr (.inl (fun _ => 0)))), (qd, .inl (cD, 1, .inr (.inr (.inr (.inl (fun _ => 0))))))] H) (hD : va_D A [(x0, .inr (9, [.ref qm, .ref qt, .ref qw, .ref qc, .ref qb, .ref qg, .int 0, .int 0, .int 0, .int 0, .int 0])), (qm, .inl (cM, 12, .inr (.inr (.inr (.inr (fun _ => none)))))), (qt, .inl (cT, 4, .inr (.inr (.inr (.inr (fun _ => none)))))), (m0, .inr (12, [.int 0, .ref l1, .ref l2, .int 0, .int 0, .int 0, .long 0])), (l1, .inr (1, [.int 0, .ref a0, .int 0])), (l2, .inr (1, [.int 0, .ref a0, .int 0])), (qo, .inl (cL, 1, .inr (.inl (fun _ => 0)))), (qd, .inl (cD, 1, .inr (.inr (.inr (.inl (fun _ => 0))))))]) (hS : va_S A s.heap H locs) {ls : Array Slot} (hl : lv_has ls 10 [(5, .int 0), (4, .ref qd), (3, .ref qo), (2, .ref m0), (1, .ref x0), (0, .ref b)])  : W p l e room_1 s m #[Value.ref b] below meth c H locs 31 4324 (lw_Z below #[Value.ref b] s) (F0 m 1219 ls []) := by
  obtain ⟨hx, hb, hr, hml, hown, hts0, hX, hbl, hlocks, hgv⟩ := C0
  have hts : ∀ w ∈ zs_law, w.before #[Value.ref b] s = true := fun w h => hts0 w (zs_law_in w h)
  have hbA : ¬ A b := fun h => absurd (hA2 b h) (Nat.not_le.mpr hbl)
  refine lv_aload_n hx hb dL_law_1219 rfl (lv_at hl 4 rfl) ?_
  refine lv_aload_n hx hb dL_law_1220 rfl (lv_at hl 5 rfl) ?_
  refine lv_iload hx hb dL_law_1221 (lv_at hl 0 rfl) ?_
  refine lv_iconst (v := 1) hx hb dL_law_1223 (by decide) ?_
  refine lv_iadd hx hb dL_law_1224 ?_
  refine lv_topi (fun x_1 ex_1 => ?_)
  obtain rfl : x_1 = 1 := ex_1.trans (by decide)
  refine va_sld hx hb hX hbl hbA hS (by unfold vp_in; decide) dL_law_1225 ?_
  refine lv_aload_n hx hb dL_law_1226 rfl (lv_at hl 5 rfl) ?_
  refine lv_iload hx hb dL_law_1227 (lv_at hl 0 rfl) ?_
  refine lv_iconst (v := 2) hx hb dL_law_1229 (by decide) ?_
  refine lv_iadd hx hb dL_law_1230 ?_
  refine lv_topi (fun x_2 ex_2 => ?_)
  obtain rfl : x_2 = 2 := ex_2.trans (by decide)
  refine va_sld hx hb hX hbl hbA hS (by unfold vp_in; decide) dL_law_1231 ?_
  refine lv_aload_n hx hb dL_law_1232 rfl (lv_at hl 5 rfl) ?_
  refine lv_iload hx hb dL_law_1233 (lv_at hl 0 rfl) ?_
  refine lv_iconst (v := 3) hx hb dL_law_1235 (by decide) ?_
  refine lv_iadd hx hb dL_law_1236 ?_
  refine lv_topi (fun x_3 ex_3 => ?_)
  obtain rfl : x_3 = 3 := ex_3.trans (by decide)
  refine va_sld hx hb hX hbl hbA hS (by unfold vp_in; decide) dL_law_1237 ?_
  refine lv_aload_n hx hb dL_law_1238 rfl (lv_at hl 5 rfl) ?_
  refine lv_iload hx hb dL_law_1239 (lv_at hl 0 rfl) ?_
  refine lv_iconst (v := 4) hx hb dL_law_1241 (by decide) ?_
  refine lv_iadd hx hb dL_law_1242 ?_
  refine lv_topi (fun x_4 ex_4 => ?_)
  obtain rfl : x_4 = 4 := ex_4.trans (by decide)
  refine va_sld hx hb hX hbl hbA hS (by unfold vp_in; decide) dL_law_1243 ?_
  refine lv_aload_n hx hb dL_law_1244 rfl (lv_at hl 2 rfl) ?_
  have hPc := hP.sub (ws' := [(x0, .inr (9, [.ref qm, .ref qt, .ref qw, .ref qc, .ref qb, .ref qg, .int 0, .int 0, .int 0, .int 0, .int 0])), (qo, .inl (cL, 1, .inr (.inl (fun _ => 0))))]) [0, 6] rfl
  have hDc := hD.sub (ws' := [(x0, .inr (9, [.ref qm, .ref qt, .ref qw, .ref qc, .ref qb, .ref qg, .int 0, .int 0, .int 0, .int 0, .int 0])), (qo, .inl (cL, 1, .inr (.inl (fun _ => 0))))]) [0, 6] (by decide) rfl
  have hKc := hK.sub (tys' := [(cL, .long)]) [2] rfl
  have hFc := va_free (wc := [(x0, .inr (9, [.ref qm, .ref qt, .ref qw, .ref qc, .ref qb, .ref qg, .int 0, .int 0, .int 0, .int 0, .int 0])), (qo, .inl (cL, 1, .inr (.inl (fun _ => 0))))]) hD hS hA [0, 6] rfl
  have hZc := ((hZ.kept hS.2.1).narrow hFc)
  refine va_calli (vx_runSW (As := [.ref x0, .int (xs ((1 : Int32).toNatClampNeg)), .int (xs ((2 : Int32).toNatClampNeg)), .int (xs ((3 : Int32).toNatClampNeg)), .int (xs ((4 : Int32).toNatClampNeg)), .ref qo]) (rest := []) ⟨hx, hb, hml, hown, hts⟩ (c_L_meets l hnt dC dI a0 x0 qm qt qw qc qb qg qo cL ((xs ((1 : Int32).toNatClampNeg))) ((xs ((2 : Int32).toNatClampNeg))) ((xs ((3 : Int32).toNatClampNeg))) ((xs ((4 : Int32).toNatClampNeg))) H.size ) (vx_cwSW 6 hts (goodIn_of _ (by decide +kernel)) rfl rfl rfl (by decide +kernel) ⟨Nat.le_of_ble_eq_true rfl, Nat.le_of_ble_eq_true rfl⟩) ⟨fun a U g mk q => by obtain ⟨q0, q1, qP, qK, qD, qZ⟩ := q; exact ⟨q0, q1, qP, va_K.moved (u := U) (U := U.calling g mk a) (Vm.Alike.refl U.vm) qK, qD, qZ.call⟩, fun U hU hW => ⟨rfl, by rw [hU], by rw [hU]; exact hPc, va_K.moved hW.alike hKc, hDc.weaken (fun _ _ _ _ => trivial), by rw [hU]; exact hZc.warm hW⟩⟩ rfl rfl hl.1 rfl (lv_room (Nat.le_of_ble_eq_true rfl)) dL_law_1245 ⟨Nat.le_of_ble_eq_true rfl, Nat.le_of_ble_eq_true rfl⟩) hS (fun q _ h => hFc q h) hFc (fun r_5 u t H1 locs ht hvm hw hB hz1 hk1 hS => ?_)
  obtain ⟨hP1, hK1, hD1⟩ := hB
  rw [ht] at hP1
  have hK1 := va_K.moved hvm.symm hK1
  obtain ⟨hP, hD⟩ := va_join (wr := [(qm, .inl (cM, 12, .inr (.inr (.inr (.inr (fun _ => none)))))), (qt, .inl (cT, 4, .inr (.inr (.inr (.inr (fun _ => none)))))), (m0, .inr (12, [.int 0, .ref l1, .ref l2, .int 0, .int 0, .int 0, .long 0])), (l1, .inr (1, [.int 0, .ref a0, .int 0])), (l2, .inr (1, [.int 0, .ref a0, .int 0])), (qd, .inl (cD, 1, .inr (.inr (.inr (.inl (fun _ => 0))))))]) (w1 := []) hP hD [0, 6] [1, 2, 3, 4, 5, 7] rfl rfl (by decide) (by decide) hk1 hFc hP1 hD1
  have hK := (hK.sub (tys' := [(cM, .object "Haltingale$Machine"), (cT, .object "Haltingale$Tag"), (cL, .long), (cD, .double)]) [0, 1, 2, 3] rfl).app hK1
  generalize H1 = H at hP hS ⊢
  have hP : va_P (dC, dI) vwCl [(qm, .inl (cM, 12, .inr (.inr (.inr (.inr (fun _ => none)))))), (qt, .inl (cT, 4, .inr (.inr (.inr (.inr (fun _ => none)))))), (m0, .inr (12, [.int 0, .ref l1, .ref l2, .int 0, .int 0, .int 0, .long 0])), (l1, .inr (1, [.int 0, .ref a0, .int 0])), (l2, .inr (1, [.int 0, .ref a0, .int 0])), (qd, .inl (cD, 1, .inr (.inr (.inr (.inl (fun _ => 0))))))] H := hP
  have hD : va_D A [(qm, .inl (cM, 12, .inr (.inr (.inr (.inr (fun _ => none)))))), (qt, .inl (cT, 4, .inr (.inr (.inr (.inr (fun _ => none)))))), (m0, .inr (12, [.int 0, .ref l1, .ref l2, .int 0, .int 0, .int 0, .long 0])), (l1, .inr (1, [.int 0, .ref a0, .int 0])), (l2, .inr (1, [.int 0, .ref a0, .int 0])), (qd, .inl (cD, 1, .inr (.inr (.inr (.inl (fun _ => 0))))))] := hD
  have hK : va_K (dC, dI) vwCl [(cM, .object "Haltingale$Machine"), (cT, .object "Haltingale$Tag"), (cL, .long), (cD, .double)] s := hK
  refine W.widen (k := 32) (n := 4330) (Nat.le_of_ble_eq_true rfl) (Nat.le_of_ble_eq_true rfl) ?_
  obtain rfl : r_5 = 1 := hw
  refine lv_istore (lv' := [(6, .int 1), (5, .int 0), (4, .ref qd), (3, .ref qo), (2, .ref m0), (1, .ref x0), (0, .ref b)]) hx hb dL_law_1248 hl (by decide) rfl (fun ls hl => ?_)
  refine lv_aload_n hx hb dL_law_1250 rfl (lv_at hl 4 rfl) ?_
  refine lv_aload_n hx hb dL_law_1251 rfl (lv_at hl 6 rfl) ?_
  refine lv_iload hx hb dL_law_1252 (lv_at hl 1 rfl) ?_
  refine lv_iconst (v := 1) hx hb dL_law_1254 (by decide) ?_
  refine lv_iadd hx hb dL_law_1255 ?_
  refine lv_topi (fun x_6 ex_6 => ?_)
  obtain rfl : x_6 = 1 := ex_6.trans (by decide)
  refine va_sld hx hb hX hbl hbA hS (by unfold vp_in; decide) dL_law_1256 ?_
  refine lv_aload_n hx hb dL_law_1257 rfl (lv_at hl 6 rfl) ?_
  refine lv_iload hx hb dL_law_1258 (lv_at hl 1 rfl) ?_
  refine lv_iconst (v := 2) hx hb dL_law_1260 (by decide) ?_
  refine lv_iadd hx hb dL_law_1261 ?_
  refine lv_topi (fun x_7 ex_7 => ?_)
  obtain rfl : x_7 = 2 := ex_7.trans (by decide)
  refine va_sld hx hb hX hbl hbA hS (by unfold vp_in; decide) dL_law_1262 ?_
  refine lv_aload_n hx hb dL_law_1263 rfl (lv_at hl 6 rfl) ?_
  refine lv_iload hx hb dL_law_1264 (lv_at hl 1 rfl) ?_
  refine lv_iconst (v := 3) hx hb dL_law_1266 (by decide) ?_
  refine lv_iadd hx hb dL_law_1267 ?_
  refine lv_topi (fun x_8 ex_8 => ?_)
  obtain rfl : x_8 = 3 := ex_8.trans (by decide)
  refine va_sld hx hb hX hbl hbA hS (by unfold vp_in; decide) dL_law_1268 ?_
  refine lv_aload_n hx hb dL_law_1269 rfl (lv_at hl 6 rfl) ?_
  refine lv_iload hx hb dL_law_1270 (lv_at hl 1 rfl) ?_
  refine lv_iconst (v := 4) hx hb dL_law_1272 (by decide) ?_
  refine lv_iadd hx hb dL_law_1273 ?_
  refine lv_topi (fun x_9 ex_9 => ?_)
  obtain rfl : x_9 = 4 := ex_9.trans (by decide)
  refine va_sld hx hb hX hbl hbA hS (by unfold vp_in; decide) dL_law_1274 ?_
  have hPc := hP.sub (ws' := [(m0, .inr (12, [.int 0, .ref l1, .ref l2, .int 0, .int 0, .int 0, .long 0])), (l1, .inr (1, [.int 0, .ref a0, .int 0]))]) [2, 3] rfl
  have hDc := hD.sub (ws' := [(m0, .inr (12, [.int 0, .ref l1, .ref l2, .int 0, .int 0, .int 0, .long 0])), (l1, .inr (1, [.int 0, .ref a0, .int 0]))]) [2, 3] (by decide) rfl
  have hKc := hK.sub (tys' := []) [] rfl
  have hFc := va_free (wc := [(m0, .inr (12, [.int 0, .ref l1, .ref l2, .int 0, .int 0, .int 0, .long 0])), (l1, .inr (1, [.int 0, .ref a0, .int 0]))]) hD hS hA [2, 3] rfl
  have hZc := ((hZ.kept hS.2.1).narrow hFc)
  refine va_calli (va_runV (As := [.int (xs ((1 : Int32).toNatClampNeg)), .int (xs ((2 : Int32).toNatClampNeg)), .int (xs ((3 : Int32).toNatClampNeg)), .int (xs ((4 : Int32).toNatClampNeg))]) (rest := []) ⟨hx, hb, hml, hown, hts⟩ (c_X10_meets l hnt dC dI a0 m0 l1 l2 ((xs ((1 : Int32).toNatClampNeg))) ((xs ((2 : Int32).toNatClampNeg))) ((xs ((3 : Int32).toNatClampNeg))) ((xs ((4 : Int32).toNatClampNeg))) H.size ) (cwV 4 hts (goodIn_of _ (by decide +kernel)) rfl rfl rfl (by decide +kernel) ⟨Nat.le_of_ble_eq_true rfl, Nat.le_of_ble_eq_true rfl⟩) ⟨fun a U g mk q => by obtain ⟨q0, q1, qP, qK, qD, qZ⟩ := q; exact ⟨q0, q1, qP, va_K.moved (u := U) (U := U.calling g mk a) (Vm.Alike.refl U.vm) qK, qD, qZ.call⟩, va_recv hKc hPc (ci := 12) (q0 := 0) rfl rfl, fun U hU hW => ⟨rfl, by rw [hU], by rw [hU]; exact hPc, va_K.moved hW.alike hKc, hDc.weaken (fun _ _ _ _ => trivial), by rw [hU]; exact hZc.warm hW⟩⟩ rfl rfl hl.1 rfl (lv_room (Nat.le_of_ble_eq_true rfl)) dL_law_1275 ⟨Nat.le_of_ble_eq_true rfl, Nat.le_of_ble_eq_true rfl⟩) hS (fun q _ h => hFc q h) hFc (fun r_10 u t H1 locs ht hvm hw hB hz1 hk1 hS => ?_)
  obtain ⟨hP1, hK1, hD1⟩ := hB
  rw [ht] at hP1
  have hK1 := va_K.moved hvm.symm hK1
  obtain ⟨hP, hD⟩ := va_join (wr := [(qm, .inl (cM, 12, .inr (.inr (.inr (.inr (fun _ => none)))))), (qt, .inl (cT, 4, .inr (.inr (.inr (.inr (fun _ => none)))))), (l2, .inr (1, [.int 0, .ref a0, .int 0])), (qd, .inl (cD, 1, .inr (.inr (.inr (.inl (fun _ => 0))))))]) (w1 := [(m0, .inr (12, [.int 1, .ref l1, .ref l2, .int 0, .int 0, .int 0, .long 0]))]) hP hD [2, 3] [0, 1, 4, 5] rfl rfl (by decide) (by decide) hk1 hFc hP1 hD1
  have hK := (hK.sub (tys' := [(cM, .object "Haltingale$Machine"), (cT, .object "Haltingale$Tag"), (cL, .long), (cD, .double)]) [0, 1, 2, 3] rfl).app hK1
  generalize H1 = H at hP hS ⊢
  have hP : va_P (dC, dI) vwCl [(qm, .inl (cM, 12, .inr (.inr (.inr (.inr (fun _ => none)))))), (qt, .inl (cT, 4, .inr (.inr (.inr (.inr (fun _ => none)))))), (l2, .inr (1, [.int 0, .ref a0, .int 0])), (qd, .inl (cD, 1, .inr (.inr (.inr (.inl (fun _ => 0)))))), (m0, .inr (12, [.int 1, .ref l1, .ref l2, .int 0, .int 0, .int 0, .long 0]))] H := hP
  have hD : va_D A [(qm, .inl (cM, 12, .inr (.inr (.inr (.inr (fun _ => none)))))), (qt, .inl (cT, 4, .inr (.inr (.inr (.inr (fun _ => none)))))), (l2, .inr (1, [.int 0, .ref a0, .int 0])), (qd, .inl (cD, 1, .inr (.inr (.inr (.inl (fun _ => 0)))))), (m0, .inr (12, [.int 1, .ref l1, .ref l2, .int 0, .int 0, .int 0, .long 0]))] := hD
  have hK : va_K (dC, dI) vwCl [(cM, .object "Haltingale$Machine"), (cT, .object "Haltingale$Tag"), (cL, .long), (cD, .double)] s := hK
  refine W.widen (k := 32) (n := 4330) (Nat.le_of_ble_eq_true rfl) (Nat.le_of_ble_eq_true rfl) ?_
  obtain rfl : r_10 = 0 := hw
  refine lv_istore (lv' := [(7, .int 0), (6, .int 1), (5, .int 0), (4, .ref qd), (3, .ref qo), (2, .ref m0), (1, .ref x0), (0, .ref b)]) hx hb dL_law_1278 hl (by decide) rfl (fun ls hl => ?_)
  refine lv_aload_n hx hb dL_law_1280 rfl (lv_at hl 5 rfl) ?_
  have hPc := hP.sub (ws' := [(m0, .inr (12, [.int 1, .ref l1, .ref l2, .int 0, .int 0, .int 0, .long 0]))]) [4] rfl
  have hDc := hD.sub (ws' := [(m0, .inr (12, [.int 1, .ref l1, .ref l2, .int 0, .int 0, .int 0, .long 0]))]) [4] (by decide) rfl
  have hKc := hK.sub (tys' := []) [] rfl
  have hFc := va_free (wc := [(m0, .inr (12, [.int 1, .ref l1, .ref l2, .int 0, .int 0, .int 0, .long 0]))]) hD hS hA [4] rfl
  have hZc := ((hZ.kept hS.2.1).narrow hFc)
  refine va_calli (va_runV (As := []) (rest := []) ⟨hx, hb, hml, hown, hts⟩ (c_X10_thrown l hnt dC dI a0 m0 l1 l2 1 H.size ) (cwV 0 hts (goodIn_of _ (by decide +kernel)) rfl rfl rfl (by decide +kernel) ⟨Nat.le_of_ble_eq_true rfl, Nat.le_of_ble_eq_true rfl⟩) ⟨fun a U g mk q => by obtain ⟨q0, q1, qP, qK, qD, qZ⟩ := q; exact ⟨q0, q1, qP, va_K.moved (u := U) (U := U.calling g mk a) (Vm.Alike.refl U.vm) qK, qD, qZ.call⟩, va_recv hKc hPc (ci := 12) (q0 := 0) rfl rfl, fun U hU hW => ⟨rfl, by rw [hU], by rw [hU]; exact hPc, va_K.moved hW.alike hKc, hDc.weaken (fun _ _ _ _ => trivial), by rw [hU]; exact hZc.warm hW⟩⟩ rfl rfl hl.1 rfl (lv_room (Nat.le_of_ble_eq_true rfl)) dL_law_1281 ⟨Nat.le_of_ble_eq_true rfl, Nat.le_of_ble_eq_true rfl⟩) hS (fun q _ h => hFc q h) hFc (fun r_11 u t H1 locs ht hvm hw hB hz1 hk1 hS => ?_)
  obtain ⟨hP1, hK1, hD1⟩ := hB
  rw [ht] at hP1
  have hK1 := va_K.moved hvm.symm hK1
  obtain ⟨hP, hD⟩ := va_join (wr := [(qm, .inl (cM, 12, .inr (.inr (.inr (.inr (fun _ => none)))))), (qt, .inl (cT, 4, .inr (.inr (.inr (.inr (fun _ => none)))))), (l2, .inr (1, [.int 0, .ref a0, .int 0])), (qd, .inl (cD, 1, .inr (.inr (.inr (.inl (fun _ => 0))))))]) (w1 := []) hP hD [4] [0, 1, 2, 3] rfl rfl (by decide) (by decide) hk1 hFc hP1 hD1
  have hK := (hK.sub (tys' := [(cM, .object "Haltingale$Machine"), (cT, .object "Haltingale$Tag"), (cL, .long), (cD, .double)]) [0, 1, 2, 3] rfl).app hK1
  generalize H1 = H at hP hS ⊢
  have hP : va_P (dC, dI) vwCl [(qm, .inl (cM, 12, .inr (.inr (.inr (.inr (fun _ => none)))))), (qt, .inl (cT, 4, .inr (.inr (.inr (.inr (fun _ => none)))))), (l2, .inr (1, [.int 0, .ref a0, .int 0])), (qd, .inl (cD, 1, .inr (.inr (.inr (.inl (fun _ => 0))))))] H := hP
  have hD : va_D A [(qm, .inl (cM, 12, .inr (.inr (.inr (.inr (fun _ => none)))))), (qt, .inl (cT, 4, .inr (.inr (.inr (.inr (fun _ => none)))))), (l2, .inr (1, [.int 0, .ref a0, .int 0])), (qd, .inl (cD, 1, .inr (.inr (.inr (.inl (fun _ => 0))))))] := hD
  have hK : va_K (dC, dI) vwCl [(cM, .object "Haltingale$Machine"), (cT, .object "Haltingale$Tag"), (cL, .long), (cD, .double)] s := hK
  refine W.widen (k := 32) (n := 4330) (Nat.le_of_ble_eq_true rfl) (Nat.le_of_ble_eq_true rfl) ?_
  obtain rfl : r_11 = 1 := hw
  refine lv_iload hx hb dL_law_1284 (lv_at hl 1 rfl) ?_
  refine lv_icmp_eq (tgt := 1291) hx hb dL_law_1286 (by decide) (fun c_12 => ?_) (fun c_12 => ?_)
  rotate_left
  · (first | exact absurd c_12 (by decide) | exact absurd (by decide) c_12)
  refine lv_iload hx hb dL_law_1291 (lv_at hl 1 rfl) ?_
  refine lv_if_ne (tgt := 1308) hx hb dL_law_1293 (by decide) (fun c_13 => ?_) (fun c_13 => ?_)
  rotate_left
  · (first | exact absurd c_13 (by decide) | exact absurd (by decide) c_13)
  refine lv_goto (tgt := 1806) hx hb dL_law_1308 (by decide) ?_
  refine lv_iinc (v := 7) (lv' := [(5, .int 7), (7, .int 0), (6, .int 1), (4, .ref qd), (3, .ref qo), (2, .ref m0), (1, .ref x0), (0, .ref b)]) hx hb dL_law_1806 hl (k := 2) rfl (by decide) (by decide) rfl (fun ls hl => ?_)
  refine lv_goto (tgt := 28) hx hb dL_law_1809 (by decide) ?_
  refine lv_iload hx hb dL_law_28 (lv_at hl 0 rfl) ?_
  refine lv_aload_n hx hb dL_law_30 rfl (lv_at hl 7 rfl) ?_
  refine va_slen hx hb hX hbl hbA hS dL_law_31 ?_
  refine lv_topi (fun x_14 ex_14 => ?_)
  obtain rfl : x_14 = 7 := ex_14.trans (by decide)
  refine lv_bipush (v := 7) hx hb dL_law_32 (by decide) ?_
  refine lv_isub hx hb dL_law_34 ?_
  refine lv_topi (fun x_15 ex_15 => ?_)
  obtain rfl : x_15 = 0 := ex_15.trans (by decide)
  refine lv_icmp_gt (tgt := 1812) hx hb dL_law_35 (by decide) (fun c_16 => ?_) (fun c_16 => ?_)
  rotate_left
  · (first | exact absurd c_16 (by decide) | exact absurd (by decide) c_16)
  refine lv_iconst (v := 1) hx hb dL_law_1812 (by decide) ?_
  refine va_forget (fun q hq => hA2 _ (hS.2.2 q hq)) ?_
  refine W.widen (k := room_1.cells) (n := room_1.slots) (Nat.le_of_ble_eq_true rfl) (Nat.le_of_ble_eq_true rfl) ?_
  exact lw_ret0 hx hb hr hlocks dL_law_1813

set_option maxHeartbeats 4000000 in
set_option maxRecDepth 100000 in
/-- the law, case 14 -/
theorem law_14 {p : Program} {l : Launch} (hnt : l.stackTraces = false) {e : Env} {s : State} {m : MethodId} {below : List Frame} {meth : Method} {c : Code} {dC : Nat → ClassId} {dI : Nat → Nat → Nat} {a0 b : Nat} {xs : Nat → Int32} (C0 : lw_At p s m meth c b 7 xs) {A : Nat → Prop} (hA : ∀ q : Nat, s.heap.size ≤ q → A q) (hA2 : ∀ q : Nat, A q → s.heap.size ≤ q) (hZ : zB a0 A s s.heap) {x0 : Nat} {qm : Nat} {qt : Nat} {qw : Nat} {qc : Nat} {qb : Nat} {qg : Nat} {m0 : Nat} {l1 : Nat} {l2 : Nat} {qo : Nat} {qd : Nat} {cM : ClassId} {cT : ClassId} {cL : ClassId} {cD : ClassId} {H : Heap} {locs : List Loc} (hK : va_K (dC, dI) vwCl [(cM, .object "Haltingale$Machine"), (cT, .object "Haltingale$Tag"), (cL, .long), (cD, .double)] s) (hP : va_P (dC, dI) vwCl [(x0, .inr (9, [.ref qm, .ref qt, .ref qw, .ref qc, .ref qb, .ref qg, .int 0, .int 0, .int 0, .int 0, .int 0])), (qm, .inl (cM, 12, .inr (.inr (.inr (.inr (fun _ => none)))))), (qt, .inl (cT, 4, .inr (.inr (.inr (.inr (fun _ => none)))))), (m0, .inr (12, [.int 0, .ref l1, .ref l2, .int 0, .int 0, .int 0, .long 0])), (l1, .inr (1, [.int 0, .ref a0, .int 0])), (l2, .inr (1, [.int 0, .ref a0, .int 0])), (qo, .inl (cL, 1, .inr (.inl (fun _ => 0)))), (qd, .inl (cD, 1, .inr (.inr (.inr (.inl (fun _ => 0))))))] H) (hD : va_D A [(x0, .inr (9, [.ref qm, .ref qt, .ref qw, .ref qc, .ref qb, .ref qg, .int 0, .int 0, .int 0, .int 0, .int 0])), (qm, .inl (cM, 12, .inr (.inr (.inr (.inr (fun _ => none)))))), (qt, .inl (cT, 4, .inr (.inr (.inr (.inr (fun _ => none)))))), (m0, .inr (12, [.int 0, .ref l1, .ref l2, .int 0, .int 0, .int 0, .long 0])), (l1, .inr (1, [.int 0, .ref a0, .int 0])), (l2, .inr (1, [.int 0, .ref a0, .int 0])), (qo, .inl (cL, 1, .inr (.inl (fun _ => 0)))), (qd, .inl (cD, 1, .inr (.inr (.inr (.inl (fun _ => 0))))))]) (hS : va_S A s.heap H locs) {ls : Array Slot} (hl : lv_has ls 10 [(5, .int 0), (4, .ref qd), (3, .ref qo), (2, .ref m0), (1, .ref x0), (0, .ref b)])  : W p l e room_1 s m #[Value.ref b] below meth c H locs 31 4324 (lw_Z below #[Value.ref b] s) (F0 m 1311 ls []) := by
  obtain ⟨hx, hb, hr, hml, hown, hts0, hX, hbl, hlocks, hgv⟩ := C0
  have hts : ∀ w ∈ zs_law, w.before #[Value.ref b] s = true := fun w h => hts0 w (zs_law_in w h)
  have hbA : ¬ A b := fun h => absurd (hA2 b h) (Nat.not_le.mpr hbl)
  refine lv_aload_n hx hb dL_law_1311 rfl (lv_at hl 4 rfl) ?_
  refine lv_aload_n hx hb dL_law_1312 rfl (lv_at hl 5 rfl) ?_
  refine lv_iload hx hb dL_law_1313 (lv_at hl 0 rfl) ?_
  refine lv_iconst (v := 1) hx hb dL_law_1315 (by decide) ?_
  refine lv_iadd hx hb dL_law_1316 ?_
  refine lv_topi (fun x_1 ex_1 => ?_)
  obtain rfl : x_1 = 1 := ex_1.trans (by decide)
  refine va_sld hx hb hX hbl hbA hS (by unfold vp_in; decide) dL_law_1317 ?_
  refine lv_aload_n hx hb dL_law_1318 rfl (lv_at hl 5 rfl) ?_
  refine lv_iload hx hb dL_law_1319 (lv_at hl 0 rfl) ?_
  refine lv_iconst (v := 2) hx hb dL_law_1321 (by decide) ?_
  refine lv_iadd hx hb dL_law_1322 ?_
  refine lv_topi (fun x_2 ex_2 => ?_)
  obtain rfl : x_2 = 2 := ex_2.trans (by decide)
  refine va_sld hx hb hX hbl hbA hS (by unfold vp_in; decide) dL_law_1323 ?_
  refine lv_aload_n hx hb dL_law_1324 rfl (lv_at hl 2 rfl) ?_
  have hPc := hP.sub (ws' := [(x0, .inr (9, [.ref qm, .ref qt, .ref qw, .ref qc, .ref qb, .ref qg, .int 0, .int 0, .int 0, .int 0, .int 0])), (qo, .inl (cL, 1, .inr (.inl (fun _ => 0))))]) [0, 6] rfl
  have hDc := hD.sub (ws' := [(x0, .inr (9, [.ref qm, .ref qt, .ref qw, .ref qc, .ref qb, .ref qg, .int 0, .int 0, .int 0, .int 0, .int 0])), (qo, .inl (cL, 1, .inr (.inl (fun _ => 0))))]) [0, 6] (by decide) rfl
  have hKc := hK.sub (tys' := [(cL, .long)]) [2] rfl
  have hFc := va_free (wc := [(x0, .inr (9, [.ref qm, .ref qt, .ref qw, .ref qc, .ref qb, .ref qg, .int 0, .int 0, .int 0, .int 0, .int 0])), (qo, .inl (cL, 1, .inr (.inl (fun _ => 0))))]) hD hS hA [0, 6] rfl
  have hZc := ((hZ.kept hS.2.1).narrow hFc)
  refine va_calli (vx_runSW (As := [.ref x0, .int (xs ((1 : Int32).toNatClampNeg)), .int (xs ((2 : Int32).toNatClampNeg)), .ref qo]) (rest := []) ⟨hx, hb, hml, hown, hts⟩ (c_L_likeness l hnt dC dI a0 x0 qm qt qw qc qb qg qo cL ((xs ((1 : Int32).toNatClampNeg))) ((xs ((2 : Int32).toNatClampNeg))) H.size ) (vx_cwSW 4 hts (goodIn_of _ (by decide +kernel)) rfl rfl rfl (by decide +kernel) ⟨Nat.le_of_ble_eq_true rfl, Nat.le_of_ble_eq_true rfl⟩) ⟨fun a U g mk q => by obtain ⟨q0, q1, qP, qK, qD, qZ⟩ := q; exact ⟨q0, q1, qP, va_K.moved (u := U) (U := U.calling g mk a) (Vm.Alike.refl U.vm) qK, qD, qZ.call⟩, fun U hU hW => ⟨rfl, by rw [hU], by rw [hU]; exact hPc, va_K.moved hW.alike hKc, hDc.weaken (fun _ _ _ _ => trivial), by rw [hU]; exact hZc.warm hW⟩⟩ rfl rfl hl.1 rfl (lv_room (Nat.le_of_ble_eq_true rfl)) dL_law_1325 ⟨Nat.le_of_ble_eq_true rfl, Nat.le_of_ble_eq_true rfl⟩) hS (fun q _ h => hFc q h) hFc (fun r_3 u t H1 locs ht hvm hw hB hz1 hk1 hS => ?_)
  obtain ⟨hP1, hK1, hD1⟩ := hB
  rw [ht] at hP1
  have hK1 := va_K.moved hvm.symm hK1
  obtain ⟨hP, hD⟩ := va_join (wr := [(qm, .inl (cM, 12, .inr (.inr (.inr (.inr (fun _ => none)))))), (qt, .inl (cT, 4, .inr (.inr (.inr (.inr (fun _ => none)))))), (m0, .inr (12, [.int 0, .ref l1, .ref l2, .int 0, .int 0, .int 0, .long 0])), (l1, .inr (1, [.int 0, .ref a0, .int 0])), (l2, .inr (1, [.int 0, .ref a0, .int 0])), (qd, .inl (cD, 1, .inr (.inr (.inr (.inl (fun _ => 0))))))]) (w1 := []) hP hD [0, 6] [1, 2, 3, 4, 5, 7] rfl rfl (by decide) (by decide) hk1 hFc hP1 hD1
  have hK := (hK.sub (tys' := [(cM, .object "Haltingale$Machine"), (cT, .object "Haltingale$Tag"), (cL, .long), (cD, .double)]) [0, 1, 2, 3] rfl).app hK1
  generalize H1 = H at hP hS ⊢
  have hP : va_P (dC, dI) vwCl [(qm, .inl (cM, 12, .inr (.inr (.inr (.inr (fun _ => none)))))), (qt, .inl (cT, 4, .inr (.inr (.inr (.inr (fun _ => none)))))), (m0, .inr (12, [.int 0, .ref l1, .ref l2, .int 0, .int 0, .int 0, .long 0])), (l1, .inr (1, [.int 0, .ref a0, .int 0])), (l2, .inr (1, [.int 0, .ref a0, .int 0])), (qd, .inl (cD, 1, .inr (.inr (.inr (.inl (fun _ => 0))))))] H := hP
  have hD : va_D A [(qm, .inl (cM, 12, .inr (.inr (.inr (.inr (fun _ => none)))))), (qt, .inl (cT, 4, .inr (.inr (.inr (.inr (fun _ => none)))))), (m0, .inr (12, [.int 0, .ref l1, .ref l2, .int 0, .int 0, .int 0, .long 0])), (l1, .inr (1, [.int 0, .ref a0, .int 0])), (l2, .inr (1, [.int 0, .ref a0, .int 0])), (qd, .inl (cD, 1, .inr (.inr (.inr (.inl (fun _ => 0))))))] := hD
  have hK : va_K (dC, dI) vwCl [(cM, .object "Haltingale$Machine"), (cT, .object "Haltingale$Tag"), (cL, .long), (cD, .double)] s := hK
  refine W.widen (k := 32) (n := 4330) (Nat.le_of_ble_eq_true rfl) (Nat.le_of_ble_eq_true rfl) ?_
  obtain rfl : r_3 = 1 := hw
  refine lv_istore (lv' := [(6, .int 1), (5, .int 0), (4, .ref qd), (3, .ref qo), (2, .ref m0), (1, .ref x0), (0, .ref b)]) hx hb dL_law_1328 hl (by decide) rfl (fun ls hl => ?_)
  refine lv_aload_n hx hb dL_law_1330 rfl (lv_at hl 4 rfl) ?_
  refine lv_aload_n hx hb dL_law_1331 rfl (lv_at hl 6 rfl) ?_
  refine lv_iload hx hb dL_law_1332 (lv_at hl 1 rfl) ?_
  refine lv_iconst (v := 1) hx hb dL_law_1334 (by decide) ?_
  refine lv_iadd hx hb dL_law_1335 ?_
  refine lv_topi (fun x_4 ex_4 => ?_)
  obtain rfl : x_4 = 1 := ex_4.trans (by decide)
  refine va_sld hx hb hX hbl hbA hS (by unfold vp_in; decide) dL_law_1336 ?_
  refine lv_aload_n hx hb dL_law_1337 rfl (lv_at hl 6 rfl) ?_
  refine lv_iload hx hb dL_law_1338 (lv_at hl 1 rfl) ?_
  refine lv_iconst (v := 2) hx hb dL_law_1340 (by decide) ?_
  refine lv_iadd hx hb dL_law_1341 ?_
  refine lv_topi (fun x_5 ex_5 => ?_)
  obtain rfl : x_5 = 2 := ex_5.trans (by decide)
  refine va_sld hx hb hX hbl hbA hS (by unfold vp_in; decide) dL_law_1342 ?_
  have hPc := hP.sub (ws' := [(m0, .inr (12, [.int 0, .ref l1, .ref l2, .int 0, .int 0, .int 0, .long 0])), (l1, .inr (1, [.int 0, .ref a0, .int 0]))]) [2, 3] rfl
  have hDc := hD.sub (ws' := [(m0, .inr (12, [.int 0, .ref l1, .ref l2, .int 0, .int 0, .int 0, .long 0])), (l1, .inr (1, [.int 0, .ref a0, .int 0]))]) [2, 3] (by decide) rfl
  have hKc := hK.sub (tys' := []) [] rfl
  have hFc := va_free (wc := [(m0, .inr (12, [.int 0, .ref l1, .ref l2, .int 0, .int 0, .int 0, .long 0])), (l1, .inr (1, [.int 0, .ref a0, .int 0]))]) hD hS hA [2, 3] rfl
  have hZc := ((hZ.kept hS.2.1).narrow hFc)
  refine va_calli (va_runV (As := [.int (xs ((1 : Int32).toNatClampNeg)), .int (xs ((2 : Int32).toNatClampNeg))]) (rest := []) ⟨hx, hb, hml, hown, hts⟩ (c_X10_likeness l hnt dC dI a0 m0 l1 l2 ((xs ((1 : Int32).toNatClampNeg))) ((xs ((2 : Int32).toNatClampNeg))) H.size ) (cwV 2 hts (goodIn_of _ (by decide +kernel)) rfl rfl rfl (by decide +kernel) ⟨Nat.le_of_ble_eq_true rfl, Nat.le_of_ble_eq_true rfl⟩) ⟨fun a U g mk q => by obtain ⟨q0, q1, qP, qK, qD, qZ⟩ := q; exact ⟨q0, q1, qP, va_K.moved (u := U) (U := U.calling g mk a) (Vm.Alike.refl U.vm) qK, qD, qZ.call⟩, va_recv hKc hPc (ci := 12) (q0 := 0) rfl rfl, fun U hU hW => ⟨rfl, by rw [hU], by rw [hU]; exact hPc, va_K.moved hW.alike hKc, hDc.weaken (fun _ _ _ _ => trivial), by rw [hU]; exact hZc.warm hW⟩⟩ rfl rfl hl.1 rfl (lv_room (Nat.le_of_ble_eq_true rfl)) dL_law_1343 ⟨Nat.le_of_ble_eq_true rfl, Nat.le_of_ble_eq_true rfl⟩) hS (fun q _ h => hFc q h) hFc (fun r_6 u t H1 locs ht hvm hw hB hz1 hk1 hS => ?_)
  obtain ⟨hP1, hK1, hD1⟩ := hB
  rw [ht] at hP1
  have hK1 := va_K.moved hvm.symm hK1
  obtain ⟨hP, hD⟩ := va_join (wr := [(qm, .inl (cM, 12, .inr (.inr (.inr (.inr (fun _ => none)))))), (qt, .inl (cT, 4, .inr (.inr (.inr (.inr (fun _ => none)))))), (l2, .inr (1, [.int 0, .ref a0, .int 0])), (qd, .inl (cD, 1, .inr (.inr (.inr (.inl (fun _ => 0))))))]) (w1 := [(m0, .inr (12, [.int 1, .ref l1, .ref l2, .int 0, .int 0, .int 0, .long 0]))]) hP hD [2, 3] [0, 1, 4, 5] rfl rfl (by decide) (by decide) hk1 hFc hP1 hD1
  have hK := (hK.sub (tys' := [(cM, .object "Haltingale$Machine"), (cT, .object "Haltingale$Tag"), (cL, .long), (cD, .double)]) [0, 1, 2, 3] rfl).app hK1
  generalize H1 = H at hP hS ⊢
  have hP : va_P (dC, dI) vwCl [(qm, .inl (cM, 12, .inr (.inr (.inr (.inr (fun _ => none)))))), (qt, .inl (cT, 4, .inr (.inr (.inr (.inr (fun _ => none)))))), (l2, .inr (1, [.int 0, .ref a0, .int 0])), (qd, .inl (cD, 1, .inr (.inr (.inr (.inl (fun _ => 0)))))), (m0, .inr (12, [.int 1, .ref l1, .ref l2, .int 0, .int 0, .int 0, .long 0]))] H := hP
  have hD : va_D A [(qm, .inl (cM, 12, .inr (.inr (.inr (.inr (fun _ => none)))))), (qt, .inl (cT, 4, .inr (.inr (.inr (.inr (fun _ => none)))))), (l2, .inr (1, [.int 0, .ref a0, .int 0])), (qd, .inl (cD, 1, .inr (.inr (.inr (.inl (fun _ => 0)))))), (m0, .inr (12, [.int 1, .ref l1, .ref l2, .int 0, .int 0, .int 0, .long 0]))] := hD
  have hK : va_K (dC, dI) vwCl [(cM, .object "Haltingale$Machine"), (cT, .object "Haltingale$Tag"), (cL, .long), (cD, .double)] s := hK
  refine W.widen (k := 32) (n := 4330) (Nat.le_of_ble_eq_true rfl) (Nat.le_of_ble_eq_true rfl) ?_
  obtain rfl : r_6 = 0 := hw
  refine lv_istore (lv' := [(7, .int 0), (6, .int 1), (5, .int 0), (4, .ref qd), (3, .ref qo), (2, .ref m0), (1, .ref x0), (0, .ref b)]) hx hb dL_law_1346 hl (by decide) rfl (fun ls hl => ?_)
  refine lv_aload_n hx hb dL_law_1348 rfl (lv_at hl 5 rfl) ?_
  have hPc := hP.sub (ws' := [(m0, .inr (12, [.int 1, .ref l1, .ref l2, .int 0, .int 0, .int 0, .long 0]))]) [4] rfl
  have hDc := hD.sub (ws' := [(m0, .inr (12, [.int 1, .ref l1, .ref l2, .int 0, .int 0, .int 0, .long 0]))]) [4] (by decide) rfl
  have hKc := hK.sub (tys' := []) [] rfl
  have hFc := va_free (wc := [(m0, .inr (12, [.int 1, .ref l1, .ref l2, .int 0, .int 0, .int 0, .long 0]))]) hD hS hA [4] rfl
  have hZc := ((hZ.kept hS.2.1).narrow hFc)
  refine va_calli (va_runV (As := []) (rest := []) ⟨hx, hb, hml, hown, hts⟩ (c_X10_thrown l hnt dC dI a0 m0 l1 l2 1 H.size ) (cwV 0 hts (goodIn_of _ (by decide +kernel)) rfl rfl rfl (by decide +kernel) ⟨Nat.le_of_ble_eq_true rfl, Nat.le_of_ble_eq_true rfl⟩) ⟨fun a U g mk q => by obtain ⟨q0, q1, qP, qK, qD, qZ⟩ := q; exact ⟨q0, q1, qP, va_K.moved (u := U) (U := U.calling g mk a) (Vm.Alike.refl U.vm) qK, qD, qZ.call⟩, va_recv hKc hPc (ci := 12) (q0 := 0) rfl rfl, fun U hU hW => ⟨rfl, by rw [hU], by rw [hU]; exact hPc, va_K.moved hW.alike hKc, hDc.weaken (fun _ _ _ _ => trivial), by rw [hU]; exact hZc.warm hW⟩⟩ rfl rfl hl.1 rfl (lv_room (Nat.le_of_ble_eq_true rfl)) dL_law_1349 ⟨Nat.le_of_ble_eq_true rfl, Nat.le_of_ble_eq_true rfl⟩) hS (fun q _ h => hFc q h) hFc (fun r_7 u t H1 locs ht hvm hw hB hz1 hk1 hS => ?_)
  obtain ⟨hP1, hK1, hD1⟩ := hB
  rw [ht] at hP1
  have hK1 := va_K.moved hvm.symm hK1
  obtain ⟨hP, hD⟩ := va_join (wr := [(qm, .inl (cM, 12, .inr (.inr (.inr (.inr (fun _ => none)))))), (qt, .inl (cT, 4, .inr (.inr (.inr (.inr (fun _ => none)))))), (l2, .inr (1, [.int 0, .ref a0, .int 0])), (qd, .inl (cD, 1, .inr (.inr (.inr (.inl (fun _ => 0))))))]) (w1 := []) hP hD [4] [0, 1, 2, 3] rfl rfl (by decide) (by decide) hk1 hFc hP1 hD1
  have hK := (hK.sub (tys' := [(cM, .object "Haltingale$Machine"), (cT, .object "Haltingale$Tag"), (cL, .long), (cD, .double)]) [0, 1, 2, 3] rfl).app hK1
  generalize H1 = H at hP hS ⊢
  have hP : va_P (dC, dI) vwCl [(qm, .inl (cM, 12, .inr (.inr (.inr (.inr (fun _ => none)))))), (qt, .inl (cT, 4, .inr (.inr (.inr (.inr (fun _ => none)))))), (l2, .inr (1, [.int 0, .ref a0, .int 0])), (qd, .inl (cD, 1, .inr (.inr (.inr (.inl (fun _ => 0))))))] H := hP
  have hD : va_D A [(qm, .inl (cM, 12, .inr (.inr (.inr (.inr (fun _ => none)))))), (qt, .inl (cT, 4, .inr (.inr (.inr (.inr (fun _ => none)))))), (l2, .inr (1, [.int 0, .ref a0, .int 0])), (qd, .inl (cD, 1, .inr (.inr (.inr (.inl (fun _ => 0))))))] := hD
  have hK : va_K (dC, dI) vwCl [(cM, .object "Haltingale$Machine"), (cT, .object "Haltingale$Tag"), (cL, .long), (cD, .double)] s := hK
  refine W.widen (k := 32) (n := 4330) (Nat.le_of_ble_eq_true rfl) (Nat.le_of_ble_eq_true rfl) ?_
  obtain rfl : r_7 = 1 := hw
  refine lv_iload hx hb dL_law_1352 (lv_at hl 1 rfl) ?_
  refine lv_icmp_eq (tgt := 1359) hx hb dL_law_1354 (by decide) (fun c_8 => ?_) (fun c_8 => ?_)
  rotate_left
  · (first | exact absurd c_8 (by decide) | exact absurd (by decide) c_8)
  refine lv_iload hx hb dL_law_1359 (lv_at hl 1 rfl) ?_
  refine lv_if_ne (tgt := 1376) hx hb dL_law_1361 (by decide) (fun c_9 => ?_) (fun c_9 => ?_)
  rotate_left
  · (first | exact absurd c_9 (by decide) | exact absurd (by decide) c_9)
  refine lv_goto (tgt := 1806) hx hb dL_law_1376 (by decide) ?_
  refine lv_iinc (v := 7) (lv' := [(5, .int 7), (7, .int 0), (6, .int 1), (4, .ref qd), (3, .ref qo), (2, .ref m0), (1, .ref x0), (0, .ref b)]) hx hb dL_law_1806 hl (k := 2) rfl (by decide) (by decide) rfl (fun ls hl => ?_)
  refine lv_goto (tgt := 28) hx hb dL_law_1809 (by decide) ?_
  refine lv_iload hx hb dL_law_28 (lv_at hl 0 rfl) ?_
  refine lv_aload_n hx hb dL_law_30 rfl (lv_at hl 7 rfl) ?_
  refine va_slen hx hb hX hbl hbA hS dL_law_31 ?_
  refine lv_topi (fun x_10 ex_10 => ?_)
  obtain rfl : x_10 = 7 := ex_10.trans (by decide)
  refine lv_bipush (v := 7) hx hb dL_law_32 (by decide) ?_
  refine lv_isub hx hb dL_law_34 ?_
  refine lv_topi (fun x_11 ex_11 => ?_)
  obtain rfl : x_11 = 0 := ex_11.trans (by decide)
  refine lv_icmp_gt (tgt := 1812) hx hb dL_law_35 (by decide) (fun c_12 => ?_) (fun c_12 => ?_)
  rotate_left
  · (first | exact absurd c_12 (by decide) | exact absurd (by decide) c_12)
  refine lv_iconst (v := 1) hx hb dL_law_1812 (by decide) ?_
  refine va_forget (fun q hq => hA2 _ (hS.2.2 q hq)) ?_
  refine W.widen (k := room_1.cells) (n := room_1.slots) (Nat.le_of_ble_eq_true rfl) (Nat.le_of_ble_eq_true rfl) ?_
  exact lw_ret0 hx hb hr hlocks dL_law_1813

set_option maxHeartbeats 4000000 in
set_option maxRecDepth 100000 in
/-- the law, case 16 -/
theorem law_16 {p : Program} {l : Launch} (hnt : l.stackTraces = false) {e : Env} {s : State} {m : MethodId} {below : List Frame} {meth : Method} {c : Code} {dC : Nat → ClassId} {dI : Nat → Nat → Nat} {a0 b : Nat} {xs : Nat → Int32} (C0 : lw_At p s m meth c b 7 xs) {A : Nat → Prop} (hA : ∀ q : Nat, s.heap.size ≤ q → A q) (hA2 : ∀ q : Nat, A q → s.heap.size ≤ q) (hZ : zB a0 A s s.heap) {x0 : Nat} {qm : Nat} {qt : Nat} {qw : Nat} {qc : Nat} {qb : Nat} {qg : Nat} {m0 : Nat} {l1 : Nat} {l2 : Nat} {qo : Nat} {qd : Nat} {cM : ClassId} {cT : ClassId} {cL : ClassId} {cD : ClassId} {H : Heap} {locs : List Loc} (hK : va_K (dC, dI) vwCl [(cM, .object "Haltingale$Machine"), (cT, .object "Haltingale$Tag"), (cL, .long), (cD, .double)] s) (hP : va_P (dC, dI) vwCl [(x0, .inr (9, [.ref qm, .ref qt, .ref qw, .ref qc, .ref qb, .ref qg, .int 0, .int 0, .int 0, .int 0, .int 0])), (qm, .inl (cM, 12, .inr (.inr (.inr (.inr (fun _ => none)))))), (qt, .inl (cT, 4, .inr (.inr (.inr (.inr (fun _ => none)))))), (m0, .inr (12, [.int 0, .ref l1, .ref l2, .int 0, .int 0, .int 0, .long 0])), (l1, .inr (1, [.int 0, .ref a0, .int 0])), (l2, .inr (1, [.int 0, .ref a0, .int 0])), (qo, .inl (cL, 1, .inr (.inl (fun _ => 0)))), (qd, .inl (cD, 1, .inr (.inr (.inr (.inl (fun _ => 0))))))] H) (hD : va_D A [(x0, .inr (9, [.ref qm, .ref qt, .ref qw, .ref qc, .ref qb, .ref qg, .int 0, .int 0, .int 0, .int 0, .int 0])), (qm, .inl (cM, 12, .inr (.inr (.inr (.inr (fun _ => none)))))), (qt, .inl (cT, 4, .inr (.inr (.inr (.inr (fun _ => none)))))), (m0, .inr (12, [.int 0, .ref l1, .ref l2, .int 0, .int 0, .int 0, .long 0])), (l1, .inr (1, [.int 0, .ref a0, .int 0])), (l2, .inr (1, [.int 0, .ref a0, .int 0])), (qo, .inl (cL, 1, .inr (.inl (fun _ => 0)))), (qd, .inl (cD, 1, .inr (.inr (.inr (.inl (fun _ => 0))))))]) (hS : va_S A s.heap H locs) {ls : Array Slot} (hl : lv_has ls 10 [(5, .int 0), (4, .ref qd), (3, .ref qo), (2, .ref m0), (1, .ref x0), (0, .ref b)])  : W p l e room_1 s m #[Value.ref b] below meth c H locs 31 4324 (lw_Z below #[Value.ref b] s) (F0 m 1435 ls []) := by
  obtain ⟨hx, hb, hr, hml, hown, hts0, hX, hbl, hlocks, hgv⟩ := C0
  have hts : ∀ w ∈ zs_law, w.before #[Value.ref b] s = true := fun w h => hts0 w (zs_law_in w h)
  have hbA : ¬ A b := fun h => absurd (hA2 b h) (Nat.not_le.mpr hbl)
  refine lv_aload_n hx hb dL_law_1435 rfl (lv_at hl 4 rfl) ?_
  refine lv_aload_n hx hb dL_law_1436 rfl (lv_at hl 5 rfl) ?_
  refine lv_iload hx hb dL_law_1437 (lv_at hl 0 rfl) ?_
  refine lv_iconst (v := 1) hx hb dL_law_1439 (by decide) ?_
  refine lv_iadd hx hb dL_law_1440 ?_
  refine lv_topi (fun x_1 ex_1 => ?_)
  obtain rfl : x_1 = 1 := ex_1.trans (by decide)
  refine va_sld hx hb hX hbl hbA hS (by unfold vp_in; decide) dL_law_1441 ?_
  refine lv_aload_n hx hb dL_law_1442 rfl (lv_at hl 5 rfl) ?_
  refine lv_iload hx hb dL_law_1443 (lv_at hl 0 rfl) ?_
  refine lv_iconst (v := 2) hx hb dL_law_1445 (by decide) ?_
  refine lv_iadd hx hb dL_law_1446 ?_
  refine lv_topi (fun x_2 ex_2 => ?_)
  obtain rfl : x_2 = 2 := ex_2.trans (by decide)
  refine va_sld hx hb hX hbl hbA hS (by unfold vp_in; decide) dL_law_1447 ?_
  refine lv_aload_n hx hb dL_law_1448 rfl (lv_at hl 5 rfl) ?_
  refine lv_iload hx hb dL_law_1449 (lv_at hl 0 rfl) ?_
  refine lv_iconst (v := 3) hx hb dL_law_1451 (by decide) ?_
  refine lv_iadd hx hb dL_law_1452 ?_
  refine lv_topi (fun x_3 ex_3 => ?_)
  obtain rfl : x_3 = 3 := ex_3.trans (by decide)
  refine va_sld hx hb hX hbl hbA hS (by unfold vp_in; decide) dL_law_1453 ?_
  refine lv_aload_n hx hb dL_law_1454 rfl (lv_at hl 2 rfl) ?_
  have hPc := hP.sub (ws' := [(x0, .inr (9, [.ref qm, .ref qt, .ref qw, .ref qc, .ref qb, .ref qg, .int 0, .int 0, .int 0, .int 0, .int 0])), (qo, .inl (cL, 1, .inr (.inl (fun _ => 0))))]) [0, 6] rfl
  have hDc := hD.sub (ws' := [(x0, .inr (9, [.ref qm, .ref qt, .ref qw, .ref qc, .ref qb, .ref qg, .int 0, .int 0, .int 0, .int 0, .int 0])), (qo, .inl (cL, 1, .inr (.inl (fun _ => 0))))]) [0, 6] (by decide) rfl
  have hKc := hK.sub (tys' := [(cL, .long)]) [2] rfl
  have hFc := va_free (wc := [(x0, .inr (9, [.ref qm, .ref qt, .ref qw, .ref qc, .ref qb, .ref qg, .int 0, .int 0, .int 0, .int 0, .int 0])), (qo, .inl (cL, 1, .inr (.inl (fun _ => 0))))]) hD hS hA [0, 6] rfl
  have hZc := ((hZ.kept hS.2.1).narrow hFc)
  refine va_calli (vx_runSW (As := [.ref x0, .int (xs ((1 : Int32).toNatClampNeg)), .int (xs ((2 : Int32).toNatClampNeg)), .int (xs ((3 : Int32).toNatClampNeg)), .ref qo]) (rest := []) ⟨hx, hb, hml, hown, hts⟩ (c_L_tagged l hnt dC dI a0 x0 qm qt qw qc qb qg qo cL ((xs ((1 : Int32).toNatClampNeg))) ((xs ((2 : Int32).toNatClampNeg))) ((xs ((3 : Int32).toNatClampNeg))) H.size ) (vx_cwSW 5 hts (goodIn_of _ (by decide +kernel)) rfl rfl rfl (by decide +kernel) ⟨Nat.le_of_ble_eq_true rfl, Nat.le_of_ble_eq_true rfl⟩) ⟨fun a U g mk q => by obtain ⟨q0, q1, qP, qK, qD, qZ⟩ := q; exact ⟨q0, q1, qP, va_K.moved (u := U) (U := U.calling g mk a) (Vm.Alike.refl U.vm) qK, qD, qZ.call⟩, fun U hU hW => ⟨rfl, by rw [hU], by rw [hU]; exact hPc, va_K.moved hW.alike hKc, hDc.weaken (fun _ _ _ _ => trivial), by rw [hU]; exact hZc.warm hW⟩⟩ rfl rfl hl.1 rfl (lv_room (Nat.le_of_ble_eq_true rfl)) dL_law_1455 ⟨Nat.le_of_ble_eq_true rfl, Nat.le_of_ble_eq_true rfl⟩) hS (fun q _ h => hFc q h) hFc (fun r_4 u t H1 locs ht hvm hw hB hz1 hk1 hS => ?_)
  obtain ⟨hP1, hK1, hD1⟩ := hB
  rw [ht] at hP1
  have hK1 := va_K.moved hvm.symm hK1
  obtain ⟨hP, hD⟩ := va_join (wr := [(qm, .inl (cM, 12, .inr (.inr (.inr (.inr (fun _ => none)))))), (qt, .inl (cT, 4, .inr (.inr (.inr (.inr (fun _ => none)))))), (m0, .inr (12, [.int 0, .ref l1, .ref l2, .int 0, .int 0, .int 0, .long 0])), (l1, .inr (1, [.int 0, .ref a0, .int 0])), (l2, .inr (1, [.int 0, .ref a0, .int 0])), (qd, .inl (cD, 1, .inr (.inr (.inr (.inl (fun _ => 0))))))]) (w1 := []) hP hD [0, 6] [1, 2, 3, 4, 5, 7] rfl rfl (by decide) (by decide) hk1 hFc hP1 hD1
  have hK := (hK.sub (tys' := [(cM, .object "Haltingale$Machine"), (cT, .object "Haltingale$Tag"), (cL, .long), (cD, .double)]) [0, 1, 2, 3] rfl).app hK1
  generalize H1 = H at hP hS ⊢
  have hP : va_P (dC, dI) vwCl [(qm, .inl (cM, 12, .inr (.inr (.inr (.inr (fun _ => none)))))), (qt, .inl (cT, 4, .inr (.inr (.inr (.inr (fun _ => none)))))), (m0, .inr (12, [.int 0, .ref l1, .ref l2, .int 0, .int 0, .int 0, .long 0])), (l1, .inr (1, [.int 0, .ref a0, .int 0])), (l2, .inr (1, [.int 0, .ref a0, .int 0])), (qd, .inl (cD, 1, .inr (.inr (.inr (.inl (fun _ => 0))))))] H := hP
  have hD : va_D A [(qm, .inl (cM, 12, .inr (.inr (.inr (.inr (fun _ => none)))))), (qt, .inl (cT, 4, .inr (.inr (.inr (.inr (fun _ => none)))))), (m0, .inr (12, [.int 0, .ref l1, .ref l2, .int 0, .int 0, .int 0, .long 0])), (l1, .inr (1, [.int 0, .ref a0, .int 0])), (l2, .inr (1, [.int 0, .ref a0, .int 0])), (qd, .inl (cD, 1, .inr (.inr (.inr (.inl (fun _ => 0))))))] := hD
  have hK : va_K (dC, dI) vwCl [(cM, .object "Haltingale$Machine"), (cT, .object "Haltingale$Tag"), (cL, .long), (cD, .double)] s := hK
  refine W.widen (k := 32) (n := 4330) (Nat.le_of_ble_eq_true rfl) (Nat.le_of_ble_eq_true rfl) ?_
  obtain rfl : r_4 = 1 := hw
  refine lv_istore (lv' := [(6, .int 1), (5, .int 0), (4, .ref qd), (3, .ref qo), (2, .ref m0), (1, .ref x0), (0, .ref b)]) hx hb dL_law_1458 hl (by decide) rfl (fun ls hl => ?_)
  refine lv_aload_n hx hb dL_law_1460 rfl (lv_at hl 4 rfl) ?_
  refine lv_aload_n hx hb dL_law_1461 rfl (lv_at hl 6 rfl) ?_
  refine lv_iload hx hb dL_law_1462 (lv_at hl 1 rfl) ?_
  refine lv_iconst (v := 1) hx hb dL_law_1464 (by decide) ?_
  refine lv_iadd hx hb dL_law_1465 ?_
  refine lv_topi (fun x_5 ex_5 => ?_)
  obtain rfl : x_5 = 1 := ex_5.trans (by decide)
  refine va_sld hx hb hX hbl hbA hS (by unfold vp_in; decide) dL_law_1466 ?_
  refine lv_aload_n hx hb dL_law_1467 rfl (lv_at hl 6 rfl) ?_
  refine lv_iload hx hb dL_law_1468 (lv_at hl 1 rfl) ?_
  refine lv_iconst (v := 2) hx hb dL_law_1470 (by decide) ?_
  refine lv_iadd hx hb dL_law_1471 ?_
  refine lv_topi (fun x_6 ex_6 => ?_)
  obtain rfl : x_6 = 2 := ex_6.trans (by decide)
  refine va_sld hx hb hX hbl hbA hS (by unfold vp_in; decide) dL_law_1472 ?_
  refine lv_aload_n hx hb dL_law_1473 rfl (lv_at hl 6 rfl) ?_
  refine lv_iload hx hb dL_law_1474 (lv_at hl 1 rfl) ?_
  refine lv_iconst (v := 3) hx hb dL_law_1476 (by decide) ?_
  refine lv_iadd hx hb dL_law_1477 ?_
  refine lv_topi (fun x_7 ex_7 => ?_)
  obtain rfl : x_7 = 3 := ex_7.trans (by decide)
  refine va_sld hx hb hX hbl hbA hS (by unfold vp_in; decide) dL_law_1478 ?_
  have hPc := hP.sub (ws' := [(m0, .inr (12, [.int 0, .ref l1, .ref l2, .int 0, .int 0, .int 0, .long 0])), (l2, .inr (1, [.int 0, .ref a0, .int 0]))]) [2, 4] rfl
  have hDc := hD.sub (ws' := [(m0, .inr (12, [.int 0, .ref l1, .ref l2, .int 0, .int 0, .int 0, .long 0])), (l2, .inr (1, [.int 0, .ref a0, .int 0]))]) [2, 4] (by decide) rfl
  have hKc := hK.sub (tys' := []) [] rfl
  have hFc := va_free (wc := [(m0, .inr (12, [.int 0, .ref l1, .ref l2, .int 0, .int 0, .int 0, .long 0])), (l2, .inr (1, [.int 0, .ref a0, .int 0]))]) hD hS hA [2, 4] rfl
  have hZc := ((hZ.kept hS.2.1).narrow hFc)
  refine va_calli (va_runV (As := [.int (xs ((1 : Int32).toNatClampNeg)), .int (xs ((2 : Int32).toNatClampNeg)), .int (xs ((3 : Int32).toNatClampNeg))]) (rest := []) ⟨hx, hb, hml, hown, hts⟩ (c_X10_tagged l hnt dC dI a0 m0 l1 l2 ((xs ((1 : Int32).toNatClampNeg))) ((xs ((2 : Int32).toNatClampNeg))) ((xs ((3 : Int32).toNatClampNeg))) H.size ) (cwV 3 hts (goodIn_of _ (by decide +kernel)) rfl rfl rfl (by decide +kernel) ⟨Nat.le_of_ble_eq_true rfl, Nat.le_of_ble_eq_true rfl⟩) ⟨fun a U g mk q => by obtain ⟨q0, q1, qP, qK, qD, qZ⟩ := q; exact ⟨q0, q1, qP, va_K.moved (u := U) (U := U.calling g mk a) (Vm.Alike.refl U.vm) qK, qD, qZ.call⟩, va_recv hKc hPc (ci := 12) (q0 := 0) rfl rfl, fun U hU hW => ⟨rfl, by rw [hU], by rw [hU]; exact hPc, va_K.moved hW.alike hKc, hDc.weaken (fun _ _ _ _ => trivial), by rw [hU]; exact hZc.warm hW⟩⟩ rfl rfl hl.1 rfl (lv_room (Nat.le_of_ble_eq_true rfl)) dL_law_1479 ⟨Nat.le_of_ble_eq_true rfl, Nat.le_of_ble_eq_true rfl⟩) hS (fun q _ h => hFc q h) hFc (fun r_8 u t H1 locs ht hvm hw hB hz1 hk1 hS => ?_)
  obtain ⟨hP1, hK1, hD1⟩ := hB
  rw [ht] at hP1
  have hK1 := va_K.moved hvm.symm hK1
  obtain ⟨hP, hD⟩ := va_join (wr := [(qm, .inl (cM, 12, .inr (.inr (.inr (.inr (fun _ => none)))))), (qt, .inl (cT, 4, .inr (.inr (.inr (.inr (fun _ => none)))))), (l1, .inr (1, [.int 0, .ref a0, .int 0])), (qd, .inl (cD, 1, .inr (.inr (.inr (.inl (fun _ => 0))))))]) (w1 := [(m0, .inr (12, [.int 1, .ref l1, .ref l2, .int 0, .int 0, .int 0, .long 0]))]) hP hD [2, 4] [0, 1, 3, 5] rfl rfl (by decide) (by decide) hk1 hFc hP1 hD1
  have hK := (hK.sub (tys' := [(cM, .object "Haltingale$Machine"), (cT, .object "Haltingale$Tag"), (cL, .long), (cD, .double)]) [0, 1, 2, 3] rfl).app hK1
  generalize H1 = H at hP hS ⊢
  have hP : va_P (dC, dI) vwCl [(qm, .inl (cM, 12, .inr (.inr (.inr (.inr (fun _ => none)))))), (qt, .inl (cT, 4, .inr (.inr (.inr (.inr (fun _ => none)))))), (l1, .inr (1, [.int 0, .ref a0, .int 0])), (qd, .inl (cD, 1, .inr (.inr (.inr (.inl (fun _ => 0)))))), (m0, .inr (12, [.int 1, .ref l1, .ref l2, .int 0, .int 0, .int 0, .long 0]))] H := hP
  have hD : va_D A [(qm, .inl (cM, 12, .inr (.inr (.inr (.inr (fun _ => none)))))), (qt, .inl (cT, 4, .inr (.inr (.inr (.inr (fun _ => none)))))), (l1, .inr (1, [.int 0, .ref a0, .int 0])), (qd, .inl (cD, 1, .inr (.inr (.inr (.inl (fun _ => 0)))))), (m0, .inr (12, [.int 1, .ref l1, .ref l2, .int 0, .int 0, .int 0, .long 0]))] := hD
  have hK : va_K (dC, dI) vwCl [(cM, .object "Haltingale$Machine"), (cT, .object "Haltingale$Tag"), (cL, .long), (cD, .double)] s := hK
  refine W.widen (k := 32) (n := 4330) (Nat.le_of_ble_eq_true rfl) (Nat.le_of_ble_eq_true rfl) ?_
  obtain rfl : r_8 = 0 := hw
  refine lv_istore (lv' := [(7, .int 0), (6, .int 1), (5, .int 0), (4, .ref qd), (3, .ref qo), (2, .ref m0), (1, .ref x0), (0, .ref b)]) hx hb dL_law_1482 hl (by decide) rfl (fun ls hl => ?_)
  refine lv_aload_n hx hb dL_law_1484 rfl (lv_at hl 5 rfl) ?_
  have hPc := hP.sub (ws' := [(m0, .inr (12, [.int 1, .ref l1, .ref l2, .int 0, .int 0, .int 0, .long 0]))]) [4] rfl
  have hDc := hD.sub (ws' := [(m0, .inr (12, [.int 1, .ref l1, .ref l2, .int 0, .int 0, .int 0, .long 0]))]) [4] (by decide) rfl
  have hKc := hK.sub (tys' := []) [] rfl
  have hFc := va_free (wc := [(m0, .inr (12, [.int 1, .ref l1, .ref l2, .int 0, .int 0, .int 0, .long 0]))]) hD hS hA [4] rfl
  have hZc := ((hZ.kept hS.2.1).narrow hFc)
  refine va_calli (va_runV (As := []) (rest := []) ⟨hx, hb, hml, hown, hts⟩ (c_X10_thrown l hnt dC dI a0 m0 l1 l2 1 H.size ) (cwV 0 hts (goodIn_of _ (by decide +kernel)) rfl rfl rfl (by decide +kernel) ⟨Nat.le_of_ble_eq_true rfl, Nat.le_of_ble_eq_true rfl⟩) ⟨fun a U g mk q => by obtain ⟨q0, q1, qP, qK, qD, qZ⟩ := q; exact ⟨q0, q1, qP, va_K.moved (u := U) (U := U.calling g mk a) (Vm.Alike.refl U.vm) qK, qD, qZ.call⟩, va_recv hKc hPc (ci := 12) (q0 := 0) rfl rfl, fun U hU hW => ⟨rfl, by rw [hU], by rw [hU]; exact hPc, va_K.moved hW.alike hKc, hDc.weaken (fun _ _ _ _ => trivial), by rw [hU]; exact hZc.warm hW⟩⟩ rfl rfl hl.1 rfl (lv_room (Nat.le_of_ble_eq_true rfl)) dL_law_1485 ⟨Nat.le_of_ble_eq_true rfl, Nat.le_of_ble_eq_true rfl⟩) hS (fun q _ h => hFc q h) hFc (fun r_9 u t H1 locs ht hvm hw hB hz1 hk1 hS => ?_)
  obtain ⟨hP1, hK1, hD1⟩ := hB
  rw [ht] at hP1
  have hK1 := va_K.moved hvm.symm hK1
  obtain ⟨hP, hD⟩ := va_join (wr := [(qm, .inl (cM, 12, .inr (.inr (.inr (.inr (fun _ => none)))))), (qt, .inl (cT, 4, .inr (.inr (.inr (.inr (fun _ => none)))))), (l1, .inr (1, [.int 0, .ref a0, .int 0])), (qd, .inl (cD, 1, .inr (.inr (.inr (.inl (fun _ => 0))))))]) (w1 := []) hP hD [4] [0, 1, 2, 3] rfl rfl (by decide) (by decide) hk1 hFc hP1 hD1
  have hK := (hK.sub (tys' := [(cM, .object "Haltingale$Machine"), (cT, .object "Haltingale$Tag"), (cL, .long), (cD, .double)]) [0, 1, 2, 3] rfl).app hK1
  generalize H1 = H at hP hS ⊢
  have hP : va_P (dC, dI) vwCl [(qm, .inl (cM, 12, .inr (.inr (.inr (.inr (fun _ => none)))))), (qt, .inl (cT, 4, .inr (.inr (.inr (.inr (fun _ => none)))))), (l1, .inr (1, [.int 0, .ref a0, .int 0])), (qd, .inl (cD, 1, .inr (.inr (.inr (.inl (fun _ => 0))))))] H := hP
  have hD : va_D A [(qm, .inl (cM, 12, .inr (.inr (.inr (.inr (fun _ => none)))))), (qt, .inl (cT, 4, .inr (.inr (.inr (.inr (fun _ => none)))))), (l1, .inr (1, [.int 0, .ref a0, .int 0])), (qd, .inl (cD, 1, .inr (.inr (.inr (.inl (fun _ => 0))))))] := hD
  have hK : va_K (dC, dI) vwCl [(cM, .object "Haltingale$Machine"), (cT, .object "Haltingale$Tag"), (cL, .long), (cD, .double)] s := hK
  refine W.widen (k := 32) (n := 4330) (Nat.le_of_ble_eq_true rfl) (Nat.le_of_ble_eq_true rfl) ?_
  obtain rfl : r_9 = 1 := hw
  refine lv_iload hx hb dL_law_1488 (lv_at hl 1 rfl) ?_
  refine lv_icmp_eq (tgt := 1495) hx hb dL_law_1490 (by decide) (fun c_10 => ?_) (fun c_10 => ?_)
  rotate_left
  · (first | exact absurd c_10 (by decide) | exact absurd (by decide) c_10)
  refine lv_iload hx hb dL_law_1495 (lv_at hl 1 rfl) ?_
  refine lv_if_ne (tgt := 1512) hx hb dL_law_1497 (by decide) (fun c_11 => ?_) (fun c_11 => ?_)
  rotate_left
  · (first | exact absurd c_11 (by decide) | exact absurd (by decide) c_11)
  refine lv_goto (tgt := 1806) hx hb dL_law_1512 (by decide) ?_
  refine lv_iinc (v := 7) (lv' := [(5, .int 7), (7, .int 0), (6, .int 1), (4, .ref qd), (3, .ref qo), (2, .ref m0), (1, .ref x0), (0, .ref b)]) hx hb dL_law_1806 hl (k := 2) rfl (by decide) (by decide) rfl (fun ls hl => ?_)
  refine lv_goto (tgt := 28) hx hb dL_law_1809 (by decide) ?_
  refine lv_iload hx hb dL_law_28 (lv_at hl 0 rfl) ?_
  refine lv_aload_n hx hb dL_law_30 rfl (lv_at hl 7 rfl) ?_
  refine va_slen hx hb hX hbl hbA hS dL_law_31 ?_
  refine lv_topi (fun x_12 ex_12 => ?_)
  obtain rfl : x_12 = 7 := ex_12.trans (by decide)
  refine lv_bipush (v := 7) hx hb dL_law_32 (by decide) ?_
  refine lv_isub hx hb dL_law_34 ?_
  refine lv_topi (fun x_13 ex_13 => ?_)
  obtain rfl : x_13 = 0 := ex_13.trans (by decide)
  refine lv_icmp_gt (tgt := 1812) hx hb dL_law_35 (by decide) (fun c_14 => ?_) (fun c_14 => ?_)
  rotate_left
  · (first | exact absurd c_14 (by decide) | exact absurd (by decide) c_14)
  refine lv_iconst (v := 1) hx hb dL_law_1812 (by decide) ?_
  refine va_forget (fun q hq => hA2 _ (hS.2.2 q hq)) ?_
  refine W.widen (k := room_1.cells) (n := room_1.slots) (Nat.le_of_ble_eq_true rfl) (Nat.le_of_ble_eq_true rfl) ?_
  exact lw_ret0 hx hb hr hlocks dL_law_1813

set_option maxHeartbeats 4000000 in
set_option maxRecDepth 100000 in
/-- the law, case 19 -/
theorem law_19 {p : Program} {l : Launch} (hnt : l.stackTraces = false) {e : Env} {s : State} {m : MethodId} {below : List Frame} {meth : Method} {c : Code} {dC : Nat → ClassId} {dI : Nat → Nat → Nat} {a0 b : Nat} {xs : Nat → Int32} (C0 : lw_At p s m meth c b 7 xs) {A : Nat → Prop} (hA : ∀ q : Nat, s.heap.size ≤ q → A q) (hA2 : ∀ q : Nat, A q → s.heap.size ≤ q) (hZ : zB a0 A s s.heap) {x0 : Nat} {qm : Nat} {qt : Nat} {qw : Nat} {qc : Nat} {qb : Nat} {qg : Nat} {m0 : Nat} {l1 : Nat} {l2 : Nat} {qo : Nat} {qd : Nat} {cM : ClassId} {cT : ClassId} {cL : ClassId} {cD : ClassId} {H : Heap} {locs : List Loc} (hK : va_K (dC, dI) vwCl [(cM, .object "Haltingale$Machine"), (cT, .object "Haltingale$Tag"), (cL, .long), (cD, .double)] s) (hP : va_P (dC, dI) vwCl [(x0, .inr (9, [.ref qm, .ref qt, .ref qw, .ref qc, .ref qb, .ref qg, .int 0, .int 0, .int 0, .int 0, .int 0])), (qm, .inl (cM, 12, .inr (.inr (.inr (.inr (fun _ => none)))))), (qt, .inl (cT, 4, .inr (.inr (.inr (.inr (fun _ => none)))))), (m0, .inr (12, [.int 0, .ref l1, .ref l2, .int 0, .int 0, .int 0, .long 0])), (l1, .inr (1, [.int 0, .ref a0, .int 0])), (l2, .inr (1, [.int 0, .ref a0, .int 0])), (qo, .inl (cL, 1, .inr (.inl (fun _ => 0)))), (qd, .inl (cD, 1, .inr (.inr (.inr (.inl (fun _ => 0))))))] H) (hD : va_D A [(x0, .inr (9, [.ref qm, .ref qt, .ref qw, .ref qc, .ref qb, .ref qg, .int 0, .int 0, .int 0, .int 0, .int 0])), (qm, .inl (cM, 12, .inr (.inr (.inr (.inr (fun _ => none)))))), (qt, .inl (cT, 4, .inr (.inr (.inr (.inr (fun _ => none)))))), (m0, .inr (12, [.int 0, .ref l1, .ref l2, .int 0, .int 0, .int 0, .long 0])), (l1, .inr (1, [.int 0, .ref a0, .int 0])), (l2, .inr (1, [.int 0, .ref a0, .int 0])), (qo, .inl (cL, 1, .inr (.inl (fun _ => 0)))), (qd, .inl (cD, 1, .inr (.inr (.inr (.inl (fun _ => 0))))))]) (hS : va_S A s.heap H locs) {ls : Array Slot} (hl : lv_has ls 10 [(5, .int 0), (4, .ref qd), (3, .ref qo), (2, .ref m0), (1, .ref x0), (0, .ref b)])  : W p l e room_1 s m #[Value.ref b] below meth c H locs 31 4324 (lw_Z below #[Value.ref b] s) (F0 m 1612 ls []) := by
  obtain ⟨hx, hb, hr, hml, hown, hts0, hX, hbl, hlocks, hgv⟩ := C0
  have hts : ∀ w ∈ zs_law, w.before #[Value.ref b] s = true := fun w h => hts0 w (zs_law_in w h)
  have hbA : ¬ A b := fun h => absurd (hA2 b h) (Nat.not_le.mpr hbl)
  refine lv_aload_n hx hb dL_law_1612 rfl (lv_at hl 4 rfl) ?_
  refine lv_aload_n hx hb dL_law_1613 rfl (lv_at hl 5 rfl) ?_
  refine lv_iload hx hb dL_law_1614 (lv_at hl 0 rfl) ?_
  refine lv_iconst (v := 1) hx hb dL_law_1616 (by decide) ?_
  refine lv_iadd hx hb dL_law_1617 ?_
  refine lv_topi (fun x_1 ex_1 => ?_)
  obtain rfl : x_1 = 1 := ex_1.trans (by decide)
  refine va_sld hx hb hX hbl hbA hS (by unfold vp_in; decide) dL_law_1618 ?_
  refine lv_aload_n hx hb dL_law_1619 rfl (lv_at hl 5 rfl) ?_
  refine lv_iload hx hb dL_law_1620 (lv_at hl 0 rfl) ?_
  refine lv_iconst (v := 2) hx hb dL_law_1622 (by decide) ?_
  refine lv_iadd hx hb dL_law_1623 ?_
  refine lv_topi (fun x_2 ex_2 => ?_)
  obtain rfl : x_2 = 2 := ex_2.trans (by decide)
  refine va_sld hx hb hX hbl hbA hS (by unfold vp_in; decide) dL_law_1624 ?_
  refine lv_aload_n hx hb dL_law_1625 rfl (lv_at hl 2 rfl) ?_
  have hPc := hP.sub (ws' := [(x0, .inr (9, [.ref qm, .ref qt, .ref qw, .ref qc, .ref qb, .ref qg, .int 0, .int 0, .int 0, .int 0, .int 0])), (qo, .inl (cL, 1, .inr (.inl (fun _ => 0))))]) [0, 6] rfl
  have hDc := hD.sub (ws' := [(x0, .inr (9, [.ref qm, .ref qt, .ref qw, .ref qc, .ref qb, .ref qg, .int 0, .int 0, .int 0, .int 0, .int 0])), (qo, .inl (cL, 1, .inr (.inl (fun _ => 0))))]) [0, 6] (by decide) rfl
  have hKc := hK.sub (tys' := [(cL, .long)]) [2] rfl
  have hFc := va_free (wc := [(x0, .inr (9, [.ref qm, .ref qt, .ref qw, .ref qc, .ref qb, .ref qg, .int 0, .int 0, .int 0, .int 0, .int 0])), (qo, .inl (cL, 1, .inr (.inl (fun _ => 0))))]) hD hS hA [0, 6] rfl
  have hZc := ((hZ.kept hS.2.1).narrow hFc)
  refine va_calli (vx_runSW (As := [.ref x0, .int (xs ((1 : Int32).toNatClampNeg)), .int (xs ((2 : Int32).toNatClampNeg)), .ref qo]) (rest := []) ⟨hx, hb, hml, hown, hts⟩ (c_L_cycleIn l hnt dC dI a0 x0 qm qt qw qc qb qg qo cL ((xs ((1 : Int32).toNatClampNeg))) ((xs ((2 : Int32).toNatClampNeg))) H.size ) (vx_cwSW 4 hts (goodIn_of _ (by decide +kernel)) rfl rfl rfl (by decide +kernel) ⟨Nat.le_of_ble_eq_true rfl, Nat.le_of_ble_eq_true rfl⟩) ⟨fun a U g mk q => by obtain ⟨q0, q1, qP, qK, qD, qZ⟩ := q; exact ⟨q0, q1, qP, va_K.moved (u := U) (U := U.calling g mk a) (Vm.Alike.refl U.vm) qK, qD, qZ.call⟩, fun U hU hW => ⟨rfl, by rw [hU], by rw [hU]; exact hPc, va_K.moved hW.alike hKc, hDc.weaken (fun _ _ _ _ => trivial), by rw [hU]; exact hZc.warm hW⟩⟩ rfl rfl hl.1 rfl (lv_room (Nat.le_of_ble_eq_true rfl)) dL_law_1626 ⟨Nat.le_of_ble_eq_true rfl, Nat.le_of_ble_eq_true rfl⟩) hS (fun q _ h => hFc q h) hFc (fun r_3 u t H1 locs ht hvm hw hB hz1 hk1 hS => ?_)
  obtain ⟨hP1, hK1, hD1⟩ := hB
  rw [ht] at hP1
  have hK1 := va_K.moved hvm.symm hK1
  obtain ⟨hP, hD⟩ := va_join (wr := [(qm, .inl (cM, 12, .inr (.inr (.inr (.inr (fun _ => none)))))), (qt, .inl (cT, 4, .inr (.inr (.inr (.inr (fun _ => none)))))), (m0, .inr (12, [.int 0, .ref l1, .ref l2, .int 0, .int 0, .int 0, .long 0])), (l1, .inr (1, [.int 0, .ref a0, .int 0])), (l2, .inr (1, [.int 0, .ref a0, .int 0])), (qd, .inl (cD, 1, .inr (.inr (.inr (.inl (fun _ => 0))))))]) (w1 := []) hP hD [0, 6] [1, 2, 3, 4, 5, 7] rfl rfl (by decide) (by decide) hk1 hFc hP1 hD1
  have hK := (hK.sub (tys' := [(cM, .object "Haltingale$Machine"), (cT, .object "Haltingale$Tag"), (cL, .long), (cD, .double)]) [0, 1, 2, 3] rfl).app hK1
  generalize H1 = H at hP hS ⊢
  have hP : va_P (dC, dI) vwCl [(qm, .inl (cM, 12, .inr (.inr (.inr (.inr (fun _ => none)))))), (qt, .inl (cT, 4, .inr (.inr (.inr (.inr (fun _ => none)))))), (m0, .inr (12, [.int 0, .ref l1, .ref l2, .int 0, .int 0, .int 0, .long 0])), (l1, .inr (1, [.int 0, .ref a0, .int 0])), (l2, .inr (1, [.int 0, .ref a0, .int 0])), (qd, .inl (cD, 1, .inr (.inr (.inr (.inl (fun _ => 0))))))] H := hP
  have hD : va_D A [(qm, .inl (cM, 12, .inr (.inr (.inr (.inr (fun _ => none)))))), (qt, .inl (cT, 4, .inr (.inr (.inr (.inr (fun _ => none)))))), (m0, .inr (12, [.int 0, .ref l1, .ref l2, .int 0, .int 0, .int 0, .long 0])), (l1, .inr (1, [.int 0, .ref a0, .int 0])), (l2, .inr (1, [.int 0, .ref a0, .int 0])), (qd, .inl (cD, 1, .inr (.inr (.inr (.inl (fun _ => 0))))))] := hD
  have hK : va_K (dC, dI) vwCl [(cM, .object "Haltingale$Machine"), (cT, .object "Haltingale$Tag"), (cL, .long), (cD, .double)] s := hK
  refine W.widen (k := 32) (n := 4330) (Nat.le_of_ble_eq_true rfl) (Nat.le_of_ble_eq_true rfl) ?_
  obtain rfl : r_3 = 1 := hw
  refine lv_istore (lv' := [(6, .int 1), (5, .int 0), (4, .ref qd), (3, .ref qo), (2, .ref m0), (1, .ref x0), (0, .ref b)]) hx hb dL_law_1629 hl (by decide) rfl (fun ls hl => ?_)
  refine lv_aload_n hx hb dL_law_1631 rfl (lv_at hl 4 rfl) ?_
  refine lv_aload_n hx hb dL_law_1632 rfl (lv_at hl 6 rfl) ?_
  refine lv_iload hx hb dL_law_1633 (lv_at hl 1 rfl) ?_
  refine lv_iconst (v := 1) hx hb dL_law_1635 (by decide) ?_
  refine lv_iadd hx hb dL_law_1636 ?_
  refine lv_topi (fun x_4 ex_4 => ?_)
  obtain rfl : x_4 = 1 := ex_4.trans (by decide)
  refine va_sld hx hb hX hbl hbA hS (by unfold vp_in; decide) dL_law_1637 ?_
  refine lv_aload_n hx hb dL_law_1638 rfl (lv_at hl 6 rfl) ?_
  refine lv_iload hx hb dL_law_1639 (lv_at hl 1 rfl) ?_
  refine lv_iconst (v := 2) hx hb dL_law_1641 (by decide) ?_
  refine lv_iadd hx hb dL_law_1642 ?_
  refine lv_topi (fun x_5 ex_5 => ?_)
  obtain rfl : x_5 = 2 := ex_5.trans (by decide)
  refine va_sld hx hb hX hbl hbA hS (by unfold vp_in; decide) dL_law_1643 ?_
  have hPc := hP.sub (ws' := [(m0, .inr (12, [.int 0, .ref l1, .ref l2, .int 0, .int 0, .int 0, .long 0])), (l1, .inr (1, [.int 0, .ref a0, .int 0]))]) [2, 3] rfl
  have hDc := hD.sub (ws' := [(m0, .inr (12, [.int 0, .ref l1, .ref l2, .int 0, .int 0, .int 0, .long 0])), (l1, .inr (1, [.int 0, .ref a0, .int 0]))]) [2, 3] (by decide) rfl
  have hKc := hK.sub (tys' := []) [] rfl
  have hFc := va_free (wc := [(m0, .inr (12, [.int 0, .ref l1, .ref l2, .int 0, .int 0, .int 0, .long 0])), (l1, .inr (1, [.int 0, .ref a0, .int 0]))]) hD hS hA [2, 3] rfl
  have hZc := ((hZ.kept hS.2.1).narrow hFc)
  refine va_calli (va_runV (As := [.int (xs ((1 : Int32).toNatClampNeg)), .int (xs ((2 : Int32).toNatClampNeg))]) (rest := []) ⟨hx, hb, hml, hown, hts⟩ (c_X10_cycleIn l hnt dC dI a0 m0 l1 l2 ((xs ((1 : Int32).toNatClampNeg))) ((xs ((2 : Int32).toNatClampNeg))) H.size ) (cwV 2 hts (goodIn_of _ (by decide +kernel)) rfl rfl rfl (by decide +kernel) ⟨Nat.le_of_ble_eq_true rfl, Nat.le_of_ble_eq_true rfl⟩) ⟨fun a U g mk q => by obtain ⟨q0, q1, qP, qK, qD, qZ⟩ := q; exact ⟨q0, q1, qP, va_K.moved (u := U) (U := U.calling g mk a) (Vm.Alike.refl U.vm) qK, qD, qZ.call⟩, va_recv hKc hPc (ci := 12) (q0 := 0) rfl rfl, fun U hU hW => ⟨rfl, by rw [hU], by rw [hU]; exact hPc, va_K.moved hW.alike hKc, hDc.weaken (fun _ _ _ _ => trivial), by rw [hU]; exact hZc.warm hW⟩⟩ rfl rfl hl.1 rfl (lv_room (Nat.le_of_ble_eq_true rfl)) dL_law_1644 ⟨Nat.le_of_ble_eq_true rfl, Nat.le_of_ble_eq_true rfl⟩) hS (fun q _ h => hFc q h) hFc (fun r_6 u t H1 locs ht hvm hw hB hz1 hk1 hS => ?_)
  obtain ⟨hP1, hK1, hD1⟩ := hB
  rw [ht] at hP1
  have hK1 := va_K.moved hvm.symm hK1
  obtain ⟨hP, hD⟩ := va_join (wr := [(qm, .inl (cM, 12, .inr (.inr (.inr (.inr (fun _ => none)))))), (qt, .inl (cT, 4, .inr (.inr (.inr (.inr (fun _ => none)))))), (l2, .inr (1, [.int 0, .ref a0, .int 0])), (qd, .inl (cD, 1, .inr (.inr (.inr (.inl (fun _ => 0))))))]) (w1 := [(m0, .inr (12, [.int 1, .ref l1, .ref l2, .int 0, .int 0, .int 0, .long 0]))]) hP hD [2, 3] [0, 1, 4, 5] rfl rfl (by decide) (by decide) hk1 hFc hP1 hD1
  have hK := (hK.sub (tys' := [(cM, .object "Haltingale$Machine"), (cT, .object "Haltingale$Tag"), (cL, .long), (cD, .double)]) [0, 1, 2, 3] rfl).app hK1
  generalize H1 = H at hP hS ⊢
  have hP : va_P (dC, dI) vwCl [(qm, .inl (cM, 12, .inr (.inr (.inr (.inr (fun _ => none)))))), (qt, .inl (cT, 4, .inr (.inr (.inr (.inr (fun _ => none)))))), (l2, .inr (1, [.int 0, .ref a0, .int 0])), (qd, .inl (cD, 1, .inr (.inr (.inr (.inl (fun _ => 0)))))), (m0, .inr (12, [.int 1, .ref l1, .ref l2, .int 0, .int 0, .int 0, .long 0]))] H := hP
  have hD : va_D A [(qm, .inl (cM, 12, .inr (.inr (.inr (.inr (fun _ => none)))))), (qt, .inl (cT, 4, .inr (.inr (.inr (.inr (fun _ => none)))))), (l2, .inr (1, [.int 0, .ref a0, .int 0])), (qd, .inl (cD, 1, .inr (.inr (.inr (.inl (fun _ => 0)))))), (m0, .inr (12, [.int 1, .ref l1, .ref l2, .int 0, .int 0, .int 0, .long 0]))] := hD
  have hK : va_K (dC, dI) vwCl [(cM, .object "Haltingale$Machine"), (cT, .object "Haltingale$Tag"), (cL, .long), (cD, .double)] s := hK
  refine W.widen (k := 32) (n := 4330) (Nat.le_of_ble_eq_true rfl) (Nat.le_of_ble_eq_true rfl) ?_
  obtain rfl : r_6 = 0 := hw
  refine lv_istore (lv' := [(7, .int 0), (6, .int 1), (5, .int 0), (4, .ref qd), (3, .ref qo), (2, .ref m0), (1, .ref x0), (0, .ref b)]) hx hb dL_law_1647 hl (by decide) rfl (fun ls hl => ?_)
  refine lv_aload_n hx hb dL_law_1649 rfl (lv_at hl 5 rfl) ?_
  have hPc := hP.sub (ws' := [(m0, .inr (12, [.int 1, .ref l1, .ref l2, .int 0, .int 0, .int 0, .long 0]))]) [4] rfl
  have hDc := hD.sub (ws' := [(m0, .inr (12, [.int 1, .ref l1, .ref l2, .int 0, .int 0, .int 0, .long 0]))]) [4] (by decide) rfl
  have hKc := hK.sub (tys' := []) [] rfl
  have hFc := va_free (wc := [(m0, .inr (12, [.int 1, .ref l1, .ref l2, .int 0, .int 0, .int 0, .long 0]))]) hD hS hA [4] rfl
  have hZc := ((hZ.kept hS.2.1).narrow hFc)
  refine va_calli (va_runV (As := []) (rest := []) ⟨hx, hb, hml, hown, hts⟩ (c_X10_thrown l hnt dC dI a0 m0 l1 l2 1 H.size ) (cwV 0 hts (goodIn_of _ (by decide +kernel)) rfl rfl rfl (by decide +kernel) ⟨Nat.le_of_ble_eq_true rfl, Nat.le_of_ble_eq_true rfl⟩) ⟨fun a U g mk q => by obtain ⟨q0, q1, qP, qK, qD, qZ⟩ := q; exact ⟨q0, q1, qP, va_K.moved (u := U) (U := U.calling g mk a) (Vm.Alike.refl U.vm) qK, qD, qZ.call⟩, va_recv hKc hPc (ci := 12) (q0 := 0) rfl rfl, fun U hU hW => ⟨rfl, by rw [hU], by rw [hU]; exact hPc, va_K.moved hW.alike hKc, hDc.weaken (fun _ _ _ _ => trivial), by rw [hU]; exact hZc.warm hW⟩⟩ rfl rfl hl.1 rfl (lv_room (Nat.le_of_ble_eq_true rfl)) dL_law_1650 ⟨Nat.le_of_ble_eq_true rfl, Nat.le_of_ble_eq_true rfl⟩) hS (fun q _ h => hFc q h) hFc (fun r_7 u t H1 locs ht hvm hw hB hz1 hk1 hS => ?_)
  obtain ⟨hP1, hK1, hD1⟩ := hB
  rw [ht] at hP1
  have hK1 := va_K.moved hvm.symm hK1
  obtain ⟨hP, hD⟩ := va_join (wr := [(qm, .inl (cM, 12, .inr (.inr (.inr (.inr (fun _ => none)))))), (qt, .inl (cT, 4, .inr (.inr (.inr (.inr (fun _ => none)))))), (l2, .inr (1, [.int 0, .ref a0, .int 0])), (qd, .inl (cD, 1, .inr (.inr (.inr (.inl (fun _ => 0))))))]) (w1 := []) hP hD [4] [0, 1, 2, 3] rfl rfl (by decide) (by decide) hk1 hFc hP1 hD1
  have hK := (hK.sub (tys' := [(cM, .object "Haltingale$Machine"), (cT, .object "Haltingale$Tag"), (cL, .long), (cD, .double)]) [0, 1, 2, 3] rfl).app hK1
  generalize H1 = H at hP hS ⊢
  have hP : va_P (dC, dI) vwCl [(qm, .inl (cM, 12, .inr (.inr (.inr (.inr (fun _ => none)))))), (qt, .inl (cT, 4, .inr (.inr (.inr (.inr (fun _ => none)))))), (l2, .inr (1, [.int 0, .ref a0, .int 0])), (qd, .inl (cD, 1, .inr (.inr (.inr (.inl (fun _ => 0))))))] H := hP
  have hD : va_D A [(qm, .inl (cM, 12, .inr (.inr (.inr (.inr (fun _ => none)))))), (qt, .inl (cT, 4, .inr (.inr (.inr (.inr (fun _ => none)))))), (l2, .inr (1, [.int 0, .ref a0, .int 0])), (qd, .inl (cD, 1, .inr (.inr (.inr (.inl (fun _ => 0))))))] := hD
  have hK : va_K (dC, dI) vwCl [(cM, .object "Haltingale$Machine"), (cT, .object "Haltingale$Tag"), (cL, .long), (cD, .double)] s := hK
  refine W.widen (k := 32) (n := 4330) (Nat.le_of_ble_eq_true rfl) (Nat.le_of_ble_eq_true rfl) ?_
  obtain rfl : r_7 = 1 := hw
  refine lv_iload hx hb dL_law_1653 (lv_at hl 1 rfl) ?_
  refine lv_icmp_eq (tgt := 1660) hx hb dL_law_1655 (by decide) (fun c_8 => ?_) (fun c_8 => ?_)
  rotate_left
  · (first | exact absurd c_8 (by decide) | exact absurd (by decide) c_8)
  refine lv_iload hx hb dL_law_1660 (lv_at hl 1 rfl) ?_
  refine lv_if_ne (tgt := 1677) hx hb dL_law_1662 (by decide) (fun c_9 => ?_) (fun c_9 => ?_)
  rotate_left
  · (first | exact absurd c_9 (by decide) | exact absurd (by decide) c_9)
  refine lv_goto (tgt := 1806) hx hb dL_law_1677 (by decide) ?_
  refine lv_iinc (v := 7) (lv' := [(5, .int 7), (7, .int 0), (6, .int 1), (4, .ref qd), (3, .ref qo), (2, .ref m0), (1, .ref x0), (0, .ref b)]) hx hb dL_law_1806 hl (k := 2) rfl (by decide) (by decide) rfl (fun ls hl => ?_)
  refine lv_goto (tgt := 28) hx hb dL_law_1809 (by decide) ?_
  refine lv_iload hx hb dL_law_28 (lv_at hl 0 rfl) ?_
  refine lv_aload_n hx hb dL_law_30 rfl (lv_at hl 7 rfl) ?_
  refine va_slen hx hb hX hbl hbA hS dL_law_31 ?_
  refine lv_topi (fun x_10 ex_10 => ?_)
  obtain rfl : x_10 = 7 := ex_10.trans (by decide)
  refine lv_bipush (v := 7) hx hb dL_law_32 (by decide) ?_
  refine lv_isub hx hb dL_law_34 ?_
  refine lv_topi (fun x_11 ex_11 => ?_)
  obtain rfl : x_11 = 0 := ex_11.trans (by decide)
  refine lv_icmp_gt (tgt := 1812) hx hb dL_law_35 (by decide) (fun c_12 => ?_) (fun c_12 => ?_)
  rotate_left
  · (first | exact absurd c_12 (by decide) | exact absurd (by decide) c_12)
  refine lv_iconst (v := 1) hx hb dL_law_1812 (by decide) ?_
  refine va_forget (fun q hq => hA2 _ (hS.2.2 q hq)) ?_
  refine W.widen (k := room_1.cells) (n := room_1.slots) (Nat.le_of_ble_eq_true rfl) (Nat.le_of_ble_eq_true rfl) ?_
  exact lw_ret0 hx hb hr hlocks dL_law_1813

set_option maxHeartbeats 4000000 in
set_option maxRecDepth 100000 in
/-- the law, case 20 -/
theorem law_20 {p : Program} {l : Launch} (hnt : l.stackTraces = false) {e : Env} {s : State} {m : MethodId} {below : List Frame} {meth : Method} {c : Code} {dC : Nat → ClassId} {dI : Nat → Nat → Nat} {a0 b : Nat} {xs : Nat → Int32} (C0 : lw_At p s m meth c b 7 xs) {A : Nat → Prop} (hA : ∀ q : Nat, s.heap.size ≤ q → A q) (hA2 : ∀ q : Nat, A q → s.heap.size ≤ q) (hZ : zB a0 A s s.heap) {x0 : Nat} {qm : Nat} {qt : Nat} {qw : Nat} {qc : Nat} {qb : Nat} {qg : Nat} {m0 : Nat} {l1 : Nat} {l2 : Nat} {qo : Nat} {qd : Nat} {cM : ClassId} {cT : ClassId} {cL : ClassId} {cD : ClassId} {H : Heap} {locs : List Loc} (hK : va_K (dC, dI) vwCl [(cM, .object "Haltingale$Machine"), (cT, .object "Haltingale$Tag"), (cL, .long), (cD, .double)] s) (hP : va_P (dC, dI) vwCl [(x0, .inr (9, [.ref qm, .ref qt, .ref qw, .ref qc, .ref qb, .ref qg, .int 0, .int 0, .int 0, .int 0, .int 0])), (qm, .inl (cM, 12, .inr (.inr (.inr (.inr (fun _ => none)))))), (qt, .inl (cT, 4, .inr (.inr (.inr (.inr (fun _ => none)))))), (m0, .inr (12, [.int 0, .ref l1, .ref l2, .int 0, .int 0, .int 0, .long 0])), (l1, .inr (1, [.int 0, .ref a0, .int 0])), (l2, .inr (1, [.int 0, .ref a0, .int 0])), (qo, .inl (cL, 1, .inr (.inl (fun _ => 0)))), (qd, .inl (cD, 1, .inr (.inr (.inr (.inl (fun _ => 0))))))] H) (hD : va_D A [(x0, .inr (9, [.ref qm, .ref qt, .ref qw, .ref qc, .ref qb, .ref qg, .int 0, .int 0, .int 0, .int 0, .int 0])), (qm, .inl (cM, 12, .inr (.inr (.inr (.inr (fun _ => none)))))), (qt, .inl (cT, 4, .inr (.inr (.inr (.inr (fun _ => none)))))), (m0, .inr (12, [.int 0, .ref l1, .ref l2, .int 0, .int 0, .int 0, .long 0])), (l1, .inr (1, [.int 0, .ref a0, .int 0])), (l2, .inr (1, [.int 0, .ref a0, .int 0])), (qo, .inl (cL, 1, .inr (.inl (fun _ => 0)))), (qd, .inl (cD, 1, .inr (.inr (.inr (.inl (fun _ => 0))))))]) (hS : va_S A s.heap H locs) {ls : Array Slot} (hl : lv_has ls 10 [(5, .int 0), (4, .ref qd), (3, .ref qo), (2, .ref m0), (1, .ref x0), (0, .ref b)])  : W p l e room_1 s m #[Value.ref b] below meth c H locs 31 4324 (lw_Z below #[Value.ref b] s) (F0 m 1680 ls []) := by
  obtain ⟨hx, hb, hr, hml, hown, hts0, hX, hbl, hlocks, hgv⟩ := C0
  have hts : ∀ w ∈ zs_law, w.before #[Value.ref b] s = true := fun w h => hts0 w (zs_law_in w h)
  have hbA : ¬ A b := fun h => absurd (hA2 b h) (Nat.not_le.mpr hbl)
  refine lv_aload_n hx hb dL_law_1680 rfl (lv_at hl 4 rfl) ?_
  refine lv_aload_n hx hb dL_law_1681 rfl (lv_at hl 5 rfl) ?_
  refine lv_iload hx hb dL_law_1682 (lv_at hl 0 rfl) ?_
  refine lv_iconst (v := 1) hx hb dL_law_1684 (by decide) ?_
  refine lv_iadd hx hb dL_law_1685 ?_
  refine lv_topi (fun x_1 ex_1 => ?_)
  obtain rfl : x_1 = 1 := ex_1.trans (by decide)
  refine va_sld hx hb hX hbl hbA hS (by unfold vp_in; decide) dL_law_1686 ?_
  refine lv_aload_n hx hb dL_law_1687 rfl (lv_at hl 2 rfl) ?_
  have hPc := hP.sub (ws' := [(x0, .inr (9, [.ref qm, .ref qt, .ref qw, .ref qc, .ref qb, .ref qg, .int 0, .int 0, .int 0, .int 0, .int 0])), (qo, .inl (cL, 1, .inr (.inl (fun _ => 0))))]) [0, 6] rfl
  have hDc := hD.sub (ws' := [(x0, .inr (9, [.ref qm, .ref qt, .ref qw, .ref qc, .ref qb, .ref qg, .int 0, .int 0, .int 0, .int 0, .int 0])), (qo, .inl (cL, 1, .inr (.inl (fun _ => 0))))]) [0, 6] (by decide) rfl
  have hKc := hK.sub (tys' := [(cL, .long)]) [2] rfl
  have hFc := va_free (wc := [(x0, .inr (9, [.ref qm, .ref qt, .ref qw, .ref qc, .ref qb, .ref qg, .int 0, .int 0, .int 0, .int 0, .int 0])), (qo, .inl (cL, 1, .inr (.inl (fun _ => 0))))]) hD hS hA [0, 6] rfl
  have hZc := ((hZ.kept hS.2.1).narrow hFc)
  refine va_calli (vx_runSW (As := [.ref x0, .int (xs ((1 : Int32).toNatClampNeg)), .ref qo]) (rest := []) ⟨hx, hb, hml, hown, hts⟩ (c_L_backIn l hnt dC dI a0 x0 qm qt qw qc qb qg qo cL ((xs ((1 : Int32).toNatClampNeg))) H.size ) (vx_cwSW 3 hts (goodIn_of _ (by decide +kernel)) rfl rfl rfl (by decide +kernel) ⟨Nat.le_of_ble_eq_true rfl, Nat.le_of_ble_eq_true rfl⟩) ⟨fun a U g mk q => by obtain ⟨q0, q1, qP, qK, qD, qZ⟩ := q; exact ⟨q0, q1, qP, va_K.moved (u := U) (U := U.calling g mk a) (Vm.Alike.refl U.vm) qK, qD, qZ.call⟩, fun U hU hW => ⟨rfl, by rw [hU], by rw [hU]; exact hPc, va_K.moved hW.alike hKc, hDc.weaken (fun _ _ _ _ => trivial), by rw [hU]; exact hZc.warm hW⟩⟩ rfl rfl hl.1 rfl (lv_room (Nat.le_of_ble_eq_true rfl)) dL_law_1688 ⟨Nat.le_of_ble_eq_true rfl, Nat.le_of_ble_eq_true rfl⟩) hS (fun q _ h => hFc q h) hFc (fun r_2 u t H1 locs ht hvm hw hB hz1 hk1 hS => ?_)
  obtain ⟨hP1, hK1, hD1⟩ := hB
  rw [ht] at hP1
  have hK1 := va_K.moved hvm.symm hK1
  obtain ⟨hP, hD⟩ := va_join (wr := [(qm, .inl (cM, 12, .inr (.inr (.inr (.inr (fun _ => none)))))), (qt, .inl (cT, 4, .inr (.inr (.inr (.inr (fun _ => none)))))), (m0, .inr (12, [.int 0, .ref l1, .ref l2, .int 0, .int 0, .int 0, .long 0])), (l1, .inr (1, [.int 0, .ref a0, .int 0])), (l2, .inr (1, [.int 0, .ref a0, .int 0])), (qd, .inl (cD, 1, .inr (.inr (.inr (.inl (fun _ => 0))))))]) (w1 := []) hP hD [0, 6] [1, 2, 3, 4, 5, 7] rfl rfl (by decide) (by decide) hk1 hFc hP1 hD1
  have hK := (hK.sub (tys' := [(cM, .object "Haltingale$Machine"), (cT, .object "Haltingale$Tag"), (cL, .long), (cD, .double)]) [0, 1, 2, 3] rfl).app hK1
  generalize H1 = H at hP hS ⊢
  have hP : va_P (dC, dI) vwCl [(qm, .inl (cM, 12, .inr (.inr (.inr (.inr (fun _ => none)))))), (qt, .inl (cT, 4, .inr (.inr (.inr (.inr (fun _ => none)))))), (m0, .inr (12, [.int 0, .ref l1, .ref l2, .int 0, .int 0, .int 0, .long 0])), (l1, .inr (1, [.int 0, .ref a0, .int 0])), (l2, .inr (1, [.int 0, .ref a0, .int 0])), (qd, .inl (cD, 1, .inr (.inr (.inr (.inl (fun _ => 0))))))] H := hP
  have hD : va_D A [(qm, .inl (cM, 12, .inr (.inr (.inr (.inr (fun _ => none)))))), (qt, .inl (cT, 4, .inr (.inr (.inr (.inr (fun _ => none)))))), (m0, .inr (12, [.int 0, .ref l1, .ref l2, .int 0, .int 0, .int 0, .long 0])), (l1, .inr (1, [.int 0, .ref a0, .int 0])), (l2, .inr (1, [.int 0, .ref a0, .int 0])), (qd, .inl (cD, 1, .inr (.inr (.inr (.inl (fun _ => 0))))))] := hD
  have hK : va_K (dC, dI) vwCl [(cM, .object "Haltingale$Machine"), (cT, .object "Haltingale$Tag"), (cL, .long), (cD, .double)] s := hK
  refine W.widen (k := 32) (n := 4330) (Nat.le_of_ble_eq_true rfl) (Nat.le_of_ble_eq_true rfl) ?_
  obtain rfl : r_2 = 1 := hw
  refine lv_istore (lv' := [(6, .int 1), (5, .int 0), (4, .ref qd), (3, .ref qo), (2, .ref m0), (1, .ref x0), (0, .ref b)]) hx hb dL_law_1691 hl (by decide) rfl (fun ls hl => ?_)
  refine lv_aload_n hx hb dL_law_1693 rfl (lv_at hl 4 rfl) ?_
  refine lv_aload_n hx hb dL_law_1694 rfl (lv_at hl 6 rfl) ?_
  refine lv_iload hx hb dL_law_1695 (lv_at hl 1 rfl) ?_
  refine lv_iconst (v := 1) hx hb dL_law_1697 (by decide) ?_
  refine lv_iadd hx hb dL_law_1698 ?_
  refine lv_topi (fun x_3 ex_3 => ?_)
  obtain rfl : x_3 = 1 := ex_3.trans (by decide)
  refine va_sld hx hb hX hbl hbA hS (by unfold vp_in; decide) dL_law_1699 ?_
  have hPc := hP.sub (ws' := [(m0, .inr (12, [.int 0, .ref l1, .ref l2, .int 0, .int 0, .int 0, .long 0])), (l1, .inr (1, [.int 0, .ref a0, .int 0]))]) [2, 3] rfl
  have hDc := hD.sub (ws' := [(m0, .inr (12, [.int 0, .ref l1, .ref l2, .int 0, .int 0, .int 0, .long 0])), (l1, .inr (1, [.int 0, .ref a0, .int 0]))]) [2, 3] (by decide) rfl
  have hKc := hK.sub (tys' := []) [] rfl
  have hFc := va_free (wc := [(m0, .inr (12, [.int 0, .ref l1, .ref l2, .int 0, .int 0, .int 0, .long 0])), (l1, .inr (1, [.int 0, .ref a0, .int 0]))]) hD hS hA [2, 3] rfl
  have hZc := ((hZ.kept hS.2.1).narrow hFc)
  refine va_calli (va_runV (As := [.int (xs ((1 : Int32).toNatClampNeg))]) (rest := []) ⟨hx, hb, hml, hown, hts⟩ (c_X10_backIn l hnt dC dI a0 m0 l1 l2 ((xs ((1 : Int32).toNatClampNeg))) H.size ) (cwV 1 hts (goodIn_of _ (by decide +kernel)) rfl rfl rfl (by decide +kernel) ⟨Nat.le_of_ble_eq_true rfl, Nat.le_of_ble_eq_true rfl⟩) ⟨fun a U g mk q => by obtain ⟨q0, q1, qP, qK, qD, qZ⟩ := q; exact ⟨q0, q1, qP, va_K.moved (u := U) (U := U.calling g mk a) (Vm.Alike.refl U.vm) qK, qD, qZ.call⟩, va_recv hKc hPc (ci := 12) (q0 := 0) rfl rfl, fun U hU hW => ⟨rfl, by rw [hU], by rw [hU]; exact hPc, va_K.moved hW.alike hKc, hDc.weaken (fun _ _ _ _ => trivial), by rw [hU]; exact hZc.warm hW⟩⟩ rfl rfl hl.1 rfl (lv_room (Nat.le_of_ble_eq_true rfl)) dL_law_1700 ⟨Nat.le_of_ble_eq_true rfl, Nat.le_of_ble_eq_true rfl⟩) hS (fun q _ h => hFc q h) hFc (fun r_4 u t H1 locs ht hvm hw hB hz1 hk1 hS => ?_)
  obtain ⟨hP1, hK1, hD1⟩ := hB
  rw [ht] at hP1
  have hK1 := va_K.moved hvm.symm hK1
  obtain ⟨hP, hD⟩ := va_join (wr := [(qm, .inl (cM, 12, .inr (.inr (.inr (.inr (fun _ => none)))))), (qt, .inl (cT, 4, .inr (.inr (.inr (.inr (fun _ => none)))))), (l2, .inr (1, [.int 0, .ref a0, .int 0])), (qd, .inl (cD, 1, .inr (.inr (.inr (.inl (fun _ => 0))))))]) (w1 := [(m0, .inr (12, [.int 1, .ref l1, .ref l2, .int 0, .int 0, .int 0, .long 0]))]) hP hD [2, 3] [0, 1, 4, 5] rfl rfl (by decide) (by decide) hk1 hFc hP1 hD1
  have hK := (hK.sub (tys' := [(cM, .object "Haltingale$Machine"), (cT, .object "Haltingale$Tag"), (cL, .long), (cD, .double)]) [0, 1, 2, 3] rfl).app hK1
  generalize H1 = H at hP hS ⊢
  have hP : va_P (dC, dI) vwCl [(qm, .inl (cM, 12, .inr (.inr (.inr (.inr (fun _ => none)))))), (qt, .inl (cT, 4, .inr (.inr (.inr (.inr (fun _ => none)))))), (l2, .inr (1, [.int 0, .ref a0, .int 0])), (qd, .inl (cD, 1, .inr (.inr (.inr (.inl (fun _ => 0)))))), (m0, .inr (12, [.int 1, .ref l1, .ref l2, .int 0, .int 0, .int 0, .long 0]))] H := hP
  have hD : va_D A [(qm, .inl (cM, 12, .inr (.inr (.inr (.inr (fun _ => none)))))), (qt, .inl (cT, 4, .inr (.inr (.inr (.inr (fun _ => none)))))), (l2, .inr (1, [.int 0, .ref a0, .int 0])), (qd, .inl (cD, 1, .inr (.inr (.inr (.inl (fun _ => 0)))))), (m0, .inr (12, [.int 1, .ref l1, .ref l2, .int 0, .int 0, .int 0, .long 0]))] := hD
  have hK : va_K (dC, dI) vwCl [(cM, .object "Haltingale$Machine"), (cT, .object "Haltingale$Tag"), (cL, .long), (cD, .double)] s := hK
  refine W.widen (k := 32) (n := 4330) (Nat.le_of_ble_eq_true rfl) (Nat.le_of_ble_eq_true rfl) ?_
  obtain rfl : r_4 = 0 := hw
  refine lv_istore (lv' := [(7, .int 0), (6, .int 1), (5, .int 0), (4, .ref qd), (3, .ref qo), (2, .ref m0), (1, .ref x0), (0, .ref b)]) hx hb dL_law_1703 hl (by decide) rfl (fun ls hl => ?_)
  refine lv_aload_n hx hb dL_law_1705 rfl (lv_at hl 5 rfl) ?_
  have hPc := hP.sub (ws' := [(m0, .inr (12, [.int 1, .ref l1, .ref l2, .int 0, .int 0, .int 0, .long 0]))]) [4] rfl
  have hDc := hD.sub (ws' := [(m0, .inr (12, [.int 1, .ref l1, .ref l2, .int 0, .int 0, .int 0, .long 0]))]) [4] (by decide) rfl
  have hKc := hK.sub (tys' := []) [] rfl
  have hFc := va_free (wc := [(m0, .inr (12, [.int 1, .ref l1, .ref l2, .int 0, .int 0, .int 0, .long 0]))]) hD hS hA [4] rfl
  have hZc := ((hZ.kept hS.2.1).narrow hFc)
  refine va_calli (va_runV (As := []) (rest := []) ⟨hx, hb, hml, hown, hts⟩ (c_X10_thrown l hnt dC dI a0 m0 l1 l2 1 H.size ) (cwV 0 hts (goodIn_of _ (by decide +kernel)) rfl rfl rfl (by decide +kernel) ⟨Nat.le_of_ble_eq_true rfl, Nat.le_of_ble_eq_true rfl⟩) ⟨fun a U g mk q => by obtain ⟨q0, q1, qP, qK, qD, qZ⟩ := q; exact ⟨q0, q1, qP, va_K.moved (u := U) (U := U.calling g mk a) (Vm.Alike.refl U.vm) qK, qD, qZ.call⟩, va_recv hKc hPc (ci := 12) (q0 := 0) rfl rfl, fun U hU hW => ⟨rfl, by rw [hU], by rw [hU]; exact hPc, va_K.moved hW.alike hKc, hDc.weaken (fun _ _ _ _ => trivial), by rw [hU]; exact hZc.warm hW⟩⟩ rfl rfl hl.1 rfl (lv_room (Nat.le_of_ble_eq_true rfl)) dL_law_1706 ⟨Nat.le_of_ble_eq_true rfl, Nat.le_of_ble_eq_true rfl⟩) hS (fun q _ h => hFc q h) hFc (fun r_5 u t H1 locs ht hvm hw hB hz1 hk1 hS => ?_)
  obtain ⟨hP1, hK1, hD1⟩ := hB
  rw [ht] at hP1
  have hK1 := va_K.moved hvm.symm hK1
  obtain ⟨hP, hD⟩ := va_join (wr := [(qm, .inl (cM, 12, .inr (.inr (.inr (.inr (fun _ => none)))))), (qt, .inl (cT, 4, .inr (.inr (.inr (.inr (fun _ => none)))))), (l2, .inr (1, [.int 0, .ref a0, .int 0])), (qd, .inl (cD, 1, .inr (.inr (.inr (.inl (fun _ => 0))))))]) (w1 := []) hP hD [4] [0, 1, 2, 3] rfl rfl (by decide) (by decide) hk1 hFc hP1 hD1
  have hK := (hK.sub (tys' := [(cM, .object "Haltingale$Machine"), (cT, .object "Haltingale$Tag"), (cL, .long), (cD, .double)]) [0, 1, 2, 3] rfl).app hK1
  generalize H1 = H at hP hS ⊢
  have hP : va_P (dC, dI) vwCl [(qm, .inl (cM, 12, .inr (.inr (.inr (.inr (fun _ => none)))))), (qt, .inl (cT, 4, .inr (.inr (.inr (.inr (fun _ => none)))))), (l2, .inr (1, [.int 0, .ref a0, .int 0])), (qd, .inl (cD, 1, .inr (.inr (.inr (.inl (fun _ => 0))))))] H := hP
  have hD : va_D A [(qm, .inl (cM, 12, .inr (.inr (.inr (.inr (fun _ => none)))))), (qt, .inl (cT, 4, .inr (.inr (.inr (.inr (fun _ => none)))))), (l2, .inr (1, [.int 0, .ref a0, .int 0])), (qd, .inl (cD, 1, .inr (.inr (.inr (.inl (fun _ => 0))))))] := hD
  have hK : va_K (dC, dI) vwCl [(cM, .object "Haltingale$Machine"), (cT, .object "Haltingale$Tag"), (cL, .long), (cD, .double)] s := hK
  refine W.widen (k := 32) (n := 4330) (Nat.le_of_ble_eq_true rfl) (Nat.le_of_ble_eq_true rfl) ?_
  obtain rfl : r_5 = 1 := hw
  refine lv_iload hx hb dL_law_1709 (lv_at hl 1 rfl) ?_
  refine lv_icmp_eq (tgt := 1716) hx hb dL_law_1711 (by decide) (fun c_6 => ?_) (fun c_6 => ?_)
  rotate_left
  · (first | exact absurd c_6 (by decide) | exact absurd (by decide) c_6)
  refine lv_iload hx hb dL_law_1716 (lv_at hl 1 rfl) ?_
  refine lv_if_ne (tgt := 1733) hx hb dL_law_1718 (by decide) (fun c_7 => ?_) (fun c_7 => ?_)
  rotate_left
  · (first | exact absurd c_7 (by decide) | exact absurd (by decide) c_7)
  refine lv_goto (tgt := 1806) hx hb dL_law_1733 (by decide) ?_
  refine lv_iinc (v := 7) (lv' := [(5, .int 7), (7, .int 0), (6, .int 1), (4, .ref qd), (3, .ref qo), (2, .ref m0), (1, .ref x0), (0, .ref b)]) hx hb dL_law_1806 hl (k := 2) rfl (by decide) (by decide) rfl (fun ls hl => ?_)
  refine lv_goto (tgt := 28) hx hb dL_law_1809 (by decide) ?_
  refine lv_iload hx hb dL_law_28 (lv_at hl 0 rfl) ?_
  refine lv_aload_n hx hb dL_law_30 rfl (lv_at hl 7 rfl) ?_
  refine va_slen hx hb hX hbl hbA hS dL_law_31 ?_
  refine lv_topi (fun x_8 ex_8 => ?_)
  obtain rfl : x_8 = 7 := ex_8.trans (by decide)
  refine lv_bipush (v := 7) hx hb dL_law_32 (by decide) ?_
  refine lv_isub hx hb dL_law_34 ?_
  refine lv_topi (fun x_9 ex_9 => ?_)
  obtain rfl : x_9 = 0 := ex_9.trans (by decide)
  refine lv_icmp_gt (tgt := 1812) hx hb dL_law_35 (by decide) (fun c_10 => ?_) (fun c_10 => ?_)
  rotate_left
  · (first | exact absurd c_10 (by decide) | exact absurd (by decide) c_10)
  refine lv_iconst (v := 1) hx hb dL_law_1812 (by decide) ?_
  refine va_forget (fun q hq => hA2 _ (hS.2.2 q hq)) ?_
  refine W.widen (k := room_1.cells) (n := room_1.slots) (Nat.le_of_ble_eq_true rfl) (Nat.le_of_ble_eq_true rfl) ?_
  exact lw_ret0 hx hb hr hlocks dL_law_1813

set_option maxHeartbeats 4000000 in
set_option maxRecDepth 100000 in
/-- the law, case 21 -/
theorem law_21 {p : Program} {l : Launch} (hnt : l.stackTraces = false) {e : Env} {s : State} {m : MethodId} {below : List Frame} {meth : Method} {c : Code} {dC : Nat → ClassId} {dI : Nat → Nat → Nat} {a0 b : Nat} {xs : Nat → Int32} (C0 : lw_At p s m meth c b 7 xs) {A : Nat → Prop} (hA : ∀ q : Nat, s.heap.size ≤ q → A q) (hA2 : ∀ q : Nat, A q → s.heap.size ≤ q) (hZ : zB a0 A s s.heap) {x0 : Nat} {qm : Nat} {qt : Nat} {qw : Nat} {qc : Nat} {qb : Nat} {qg : Nat} {m0 : Nat} {l1 : Nat} {l2 : Nat} {qo : Nat} {qd : Nat} {cM : ClassId} {cT : ClassId} {cL : ClassId} {cD : ClassId} {H : Heap} {locs : List Loc} (hK : va_K (dC, dI) vwCl [(cM, .object "Haltingale$Machine"), (cT, .object "Haltingale$Tag"), (cL, .long), (cD, .double)] s) (hP : va_P (dC, dI) vwCl [(x0, .inr (9, [.ref qm, .ref qt, .ref qw, .ref qc, .ref qb, .ref qg, .int 0, .int 0, .int 0, .int 0, .int 0])), (qm, .inl (cM, 12, .inr (.inr (.inr (.inr (fun _ => none)))))), (qt, .inl (cT, 4, .inr (.inr (.inr (.inr (fun _ => none)))))), (m0, .inr (12, [.int 0, .ref l1, .ref l2, .int 0, .int 0, .int 0, .long 0])), (l1, .inr (1, [.int 0, .ref a0, .int 0])), (l2, .inr (1, [.int 0, .ref a0, .int 0])), (qo, .inl (cL, 1, .inr (.inl (fun _ => 0)))), (qd, .inl (cD, 1, .inr (.inr (.inr (.inl (fun _ => 0))))))] H) (hD : va_D A [(x0, .inr (9, [.ref qm, .ref qt, .ref qw, .ref qc, .ref qb, .ref qg, .int 0, .int 0, .int 0, .int 0, .int 0])), (qm, .inl (cM, 12, .inr (.inr (.inr (.inr (fun _ => none)))))), (qt, .inl (cT, 4, .inr (.inr (.inr (.inr (fun _ => none)))))), (m0, .inr (12, [.int 0, .ref l1, .ref l2, .int 0, .int 0, .int 0, .long 0])), (l1, .inr (1, [.int 0, .ref a0, .int 0])), (l2, .inr (1, [.int 0, .ref a0, .int 0])), (qo, .inl (cL, 1, .inr (.inl (fun _ => 0)))), (qd, .inl (cD, 1, .inr (.inr (.inr (.inl (fun _ => 0))))))]) (hS : va_S A s.heap H locs) {ls : Array Slot} (hl : lv_has ls 10 [(5, .int 0), (4, .ref qd), (3, .ref qo), (2, .ref m0), (1, .ref x0), (0, .ref b)])  : W p l e room_1 s m #[Value.ref b] below meth c H locs 31 4324 (lw_Z below #[Value.ref b] s) (F0 m 1736 ls []) := by
  obtain ⟨hx, hb, hr, hml, hown, hts0, hX, hbl, hlocks, hgv⟩ := C0
  have hts : ∀ w ∈ zs_law, w.before #[Value.ref b] s = true := fun w h => hts0 w (zs_law_in w h)
  have hbA : ¬ A b := fun h => absurd (hA2 b h) (Nat.not_le.mpr hbl)
  refine lv_aload_n hx hb dL_law_1736 rfl (lv_at hl 4 rfl) ?_
  refine lv_aload_n hx hb dL_law_1737 rfl (lv_at hl 5 rfl) ?_
  refine lv_iload hx hb dL_law_1738 (lv_at hl 0 rfl) ?_
  refine lv_iconst (v := 1) hx hb dL_law_1740 (by decide) ?_
  refine lv_iadd hx hb dL_law_1741 ?_
  refine lv_topi (fun x_1 ex_1 => ?_)
  obtain rfl : x_1 = 1 := ex_1.trans (by decide)
  refine va_sld hx hb hX hbl hbA hS (by unfold vp_in; decide) dL_law_1742 ?_
  refine lv_aload_n hx hb dL_law_1743 rfl (lv_at hl 2 rfl) ?_
  have hPc := hP.sub (ws' := [(x0, .inr (9, [.ref qm, .ref qt, .ref qw, .ref qc, .ref qb, .ref qg, .int 0, .int 0, .int 0, .int 0, .int 0])), (qo, .inl (cL, 1, .inr (.inl (fun _ => 0))))]) [0, 6] rfl
  have hDc := hD.sub (ws' := [(x0, .inr (9, [.ref qm, .ref qt, .ref qw, .ref qc, .ref qb, .ref qg, .int 0, .int 0, .int 0, .int 0, .int 0])), (qo, .inl (cL, 1, .inr (.inl (fun _ => 0))))]) [0, 6] (by decide) rfl
  have hKc := hK.sub (tys' := [(cL, .long)]) [2] rfl
  have hFc := va_free (wc := [(x0, .inr (9, [.ref qm, .ref qt, .ref qw, .ref qc, .ref qb, .ref qg, .int 0, .int 0, .int 0, .int 0, .int 0])), (qo, .inl (cL, 1, .inr (.inl (fun _ => 0))))]) hD hS hA [0, 6] rfl
  have hZc := ((hZ.kept hS.2.1).narrow hFc)
  refine va_calli (vx_runSW (As := [.ref x0, .int (xs ((1 : Int32).toNatClampNeg)), .ref qo]) (rest := []) ⟨hx, hb, hml, hown, hts⟩ (c_L_gramIn l hnt dC dI a0 x0 qm qt qw qc qb qg qo cL ((xs ((1 : Int32).toNatClampNeg))) H.size ) (vx_cwSW 3 hts (goodIn_of _ (by decide +kernel)) rfl rfl rfl (by decide +kernel) ⟨Nat.le_of_ble_eq_true rfl, Nat.le_of_ble_eq_true rfl⟩) ⟨fun a U g mk q => by obtain ⟨q0, q1, qP, qK, qD, qZ⟩ := q; exact ⟨q0, q1, qP, va_K.moved (u := U) (U := U.calling g mk a) (Vm.Alike.refl U.vm) qK, qD, qZ.call⟩, fun U hU hW => ⟨rfl, by rw [hU], by rw [hU]; exact hPc, va_K.moved hW.alike hKc, hDc.weaken (fun _ _ _ _ => trivial), by rw [hU]; exact hZc.warm hW⟩⟩ rfl rfl hl.1 rfl (lv_room (Nat.le_of_ble_eq_true rfl)) dL_law_1744 ⟨Nat.le_of_ble_eq_true rfl, Nat.le_of_ble_eq_true rfl⟩) hS (fun q _ h => hFc q h) hFc (fun r_2 u t H1 locs ht hvm hw hB hz1 hk1 hS => ?_)
  obtain ⟨hP1, hK1, hD1⟩ := hB
  rw [ht] at hP1
  have hK1 := va_K.moved hvm.symm hK1
  obtain ⟨hP, hD⟩ := va_join (wr := [(qm, .inl (cM, 12, .inr (.inr (.inr (.inr (fun _ => none)))))), (qt, .inl (cT, 4, .inr (.inr (.inr (.inr (fun _ => none)))))), (m0, .inr (12, [.int 0, .ref l1, .ref l2, .int 0, .int 0, .int 0, .long 0])), (l1, .inr (1, [.int 0, .ref a0, .int 0])), (l2, .inr (1, [.int 0, .ref a0, .int 0])), (qd, .inl (cD, 1, .inr (.inr (.inr (.inl (fun _ => 0))))))]) (w1 := []) hP hD [0, 6] [1, 2, 3, 4, 5, 7] rfl rfl (by decide) (by decide) hk1 hFc hP1 hD1
  have hK := (hK.sub (tys' := [(cM, .object "Haltingale$Machine"), (cT, .object "Haltingale$Tag"), (cL, .long), (cD, .double)]) [0, 1, 2, 3] rfl).app hK1
  generalize H1 = H at hP hS ⊢
  have hP : va_P (dC, dI) vwCl [(qm, .inl (cM, 12, .inr (.inr (.inr (.inr (fun _ => none)))))), (qt, .inl (cT, 4, .inr (.inr (.inr (.inr (fun _ => none)))))), (m0, .inr (12, [.int 0, .ref l1, .ref l2, .int 0, .int 0, .int 0, .long 0])), (l1, .inr (1, [.int 0, .ref a0, .int 0])), (l2, .inr (1, [.int 0, .ref a0, .int 0])), (qd, .inl (cD, 1, .inr (.inr (.inr (.inl (fun _ => 0))))))] H := hP
  have hD : va_D A [(qm, .inl (cM, 12, .inr (.inr (.inr (.inr (fun _ => none)))))), (qt, .inl (cT, 4, .inr (.inr (.inr (.inr (fun _ => none)))))), (m0, .inr (12, [.int 0, .ref l1, .ref l2, .int 0, .int 0, .int 0, .long 0])), (l1, .inr (1, [.int 0, .ref a0, .int 0])), (l2, .inr (1, [.int 0, .ref a0, .int 0])), (qd, .inl (cD, 1, .inr (.inr (.inr (.inl (fun _ => 0))))))] := hD
  have hK : va_K (dC, dI) vwCl [(cM, .object "Haltingale$Machine"), (cT, .object "Haltingale$Tag"), (cL, .long), (cD, .double)] s := hK
  refine W.widen (k := 32) (n := 4330) (Nat.le_of_ble_eq_true rfl) (Nat.le_of_ble_eq_true rfl) ?_
  obtain rfl : r_2 = 1 := hw
  refine lv_istore (lv' := [(6, .int 1), (5, .int 0), (4, .ref qd), (3, .ref qo), (2, .ref m0), (1, .ref x0), (0, .ref b)]) hx hb dL_law_1747 hl (by decide) rfl (fun ls hl => ?_)
  refine lv_aload_n hx hb dL_law_1749 rfl (lv_at hl 4 rfl) ?_
  refine lv_aload_n hx hb dL_law_1750 rfl (lv_at hl 6 rfl) ?_
  refine lv_iload hx hb dL_law_1751 (lv_at hl 1 rfl) ?_
  refine lv_iconst (v := 1) hx hb dL_law_1753 (by decide) ?_
  refine lv_iadd hx hb dL_law_1754 ?_
  refine lv_topi (fun x_3 ex_3 => ?_)
  obtain rfl : x_3 = 1 := ex_3.trans (by decide)
  refine va_sld hx hb hX hbl hbA hS (by unfold vp_in; decide) dL_law_1755 ?_
  have hPc := hP.sub (ws' := [(m0, .inr (12, [.int 0, .ref l1, .ref l2, .int 0, .int 0, .int 0, .long 0])), (l1, .inr (1, [.int 0, .ref a0, .int 0]))]) [2, 3] rfl
  have hDc := hD.sub (ws' := [(m0, .inr (12, [.int 0, .ref l1, .ref l2, .int 0, .int 0, .int 0, .long 0])), (l1, .inr (1, [.int 0, .ref a0, .int 0]))]) [2, 3] (by decide) rfl
  have hKc := hK.sub (tys' := []) [] rfl
  have hFc := va_free (wc := [(m0, .inr (12, [.int 0, .ref l1, .ref l2, .int 0, .int 0, .int 0, .long 0])), (l1, .inr (1, [.int 0, .ref a0, .int 0]))]) hD hS hA [2, 3] rfl
  have hZc := ((hZ.kept hS.2.1).narrow hFc)
  refine va_calli (va_runV (As := [.int (xs ((1 : Int32).toNatClampNeg))]) (rest := []) ⟨hx, hb, hml, hown, hts⟩ (c_X10_gramIn l hnt dC dI a0 m0 l1 l2 ((xs ((1 : Int32).toNatClampNeg))) H.size ) (cwV 1 hts (goodIn_of _ (by decide +kernel)) rfl rfl rfl (by decide +kernel) ⟨Nat.le_of_ble_eq_true rfl, Nat.le_of_ble_eq_true rfl⟩) ⟨fun a U g mk q => by obtain ⟨q0, q1, qP, qK, qD, qZ⟩ := q; exact ⟨q0, q1, qP, va_K.moved (u := U) (U := U.calling g mk a) (Vm.Alike.refl U.vm) qK, qD, qZ.call⟩, va_recv hKc hPc (ci := 12) (q0 := 0) rfl rfl, fun U hU hW => ⟨rfl, by rw [hU], by rw [hU]; exact hPc, va_K.moved hW.alike hKc, hDc.weaken (fun _ _ _ _ => trivial), by rw [hU]; exact hZc.warm hW⟩⟩ rfl rfl hl.1 rfl (lv_room (Nat.le_of_ble_eq_true rfl)) dL_law_1756 ⟨Nat.le_of_ble_eq_true rfl, Nat.le_of_ble_eq_true rfl⟩) hS (fun q _ h => hFc q h) hFc (fun r_4 u t H1 locs ht hvm hw hB hz1 hk1 hS => ?_)
  obtain ⟨hP1, hK1, hD1⟩ := hB
  rw [ht] at hP1
  have hK1 := va_K.moved hvm.symm hK1
  obtain ⟨hP, hD⟩ := va_join (wr := [(qm, .inl (cM, 12, .inr (.inr (.inr (.inr (fun _ => none)))))), (qt, .inl (cT, 4, .inr (.inr (.inr (.inr (fun _ => none)))))), (l2, .inr (1, [.int 0, .ref a0, .int 0])), (qd, .inl (cD, 1, .inr (.inr (.inr (.inl (fun _ => 0))))))]) (w1 := [(m0, .inr (12, [.int 1, .ref l1, .ref l2, .int 0, .int 0, .int 0, .long 0]))]) hP hD [2, 3] [0, 1, 4, 5] rfl rfl (by decide) (by decide) hk1 hFc hP1 hD1
  have hK := (hK.sub (tys' := [(cM, .object "Haltingale$Machine"), (cT, .object "Haltingale$Tag"), (cL, .long), (cD, .double)]) [0, 1, 2, 3] rfl).app hK1
  generalize H1 = H at hP hS ⊢
  have hP : va_P (dC, dI) vwCl [(qm, .inl (cM, 12, .inr (.inr (.inr (.inr (fun _ => none)))))), (qt, .inl (cT, 4, .inr (.inr (.inr (.inr (fun _ => none)))))), (l2, .inr (1, [.int 0, .ref a0, .int 0])), (qd, .inl (cD, 1, .inr (.inr (.inr (.inl (fun _ => 0)))))), (m0, .inr (12, [.int 1, .ref l1, .ref l2, .int 0, .int 0, .int 0, .long 0]))] H := hP
  have hD : va_D A [(qm, .inl (cM, 12, .inr (.inr (.inr (.inr (fun _ => none)))))), (qt, .inl (cT, 4, .inr (.inr (.inr (.inr (fun _ => none)))))), (l2, .inr (1, [.int 0, .ref a0, .int 0])), (qd, .inl (cD, 1, .inr (.inr (.inr (.inl (fun _ => 0)))))), (m0, .inr (12, [.int 1, .ref l1, .ref l2, .int 0, .int 0, .int 0, .long 0]))] := hD
  have hK : va_K (dC, dI) vwCl [(cM, .object "Haltingale$Machine"), (cT, .object "Haltingale$Tag"), (cL, .long), (cD, .double)] s := hK
  refine W.widen (k := 32) (n := 4330) (Nat.le_of_ble_eq_true rfl) (Nat.le_of_ble_eq_true rfl) ?_
  obtain rfl : r_4 = 0 := hw
  refine lv_istore (lv' := [(7, .int 0), (6, .int 1), (5, .int 0), (4, .ref qd), (3, .ref qo), (2, .ref m0), (1, .ref x0), (0, .ref b)]) hx hb dL_law_1759 hl (by decide) rfl (fun ls hl => ?_)
  refine lv_aload_n hx hb dL_law_1761 rfl (lv_at hl 5 rfl) ?_
  have hPc := hP.sub (ws' := [(m0, .inr (12, [.int 1, .ref l1, .ref l2, .int 0, .int 0, .int 0, .long 0]))]) [4] rfl
  have hDc := hD.sub (ws' := [(m0, .inr (12, [.int 1, .ref l1, .ref l2, .int 0, .int 0, .int 0, .long 0]))]) [4] (by decide) rfl
  have hKc := hK.sub (tys' := []) [] rfl
  have hFc := va_free (wc := [(m0, .inr (12, [.int 1, .ref l1, .ref l2, .int 0, .int 0, .int 0, .long 0]))]) hD hS hA [4] rfl
  have hZc := ((hZ.kept hS.2.1).narrow hFc)
  refine va_calli (va_runV (As := []) (rest := []) ⟨hx, hb, hml, hown, hts⟩ (c_X10_thrown l hnt dC dI a0 m0 l1 l2 1 H.size ) (cwV 0 hts (goodIn_of _ (by decide +kernel)) rfl rfl rfl (by decide +kernel) ⟨Nat.le_of_ble_eq_true rfl, Nat.le_of_ble_eq_true rfl⟩) ⟨fun a U g mk q => by obtain ⟨q0, q1, qP, qK, qD, qZ⟩ := q; exact ⟨q0, q1, qP, va_K.moved (u := U) (U := U.calling g mk a) (Vm.Alike.refl U.vm) qK, qD, qZ.call⟩, va_recv hKc hPc (ci := 12) (q0 := 0) rfl rfl, fun U hU hW => ⟨rfl, by rw [hU], by rw [hU]; exact hPc, va_K.moved hW.alike hKc, hDc.weaken (fun _ _ _ _ => trivial), by rw [hU]; exact hZc.warm hW⟩⟩ rfl rfl hl.1 rfl (lv_room (Nat.le_of_ble_eq_true rfl)) dL_law_1762 ⟨Nat.le_of_ble_eq_true rfl, Nat.le_of_ble_eq_true rfl⟩) hS (fun q _ h => hFc q h) hFc (fun r_5 u t H1 locs ht hvm hw hB hz1 hk1 hS => ?_)
  obtain ⟨hP1, hK1, hD1⟩ := hB
  rw [ht] at hP1
  have hK1 := va_K.moved hvm.symm hK1
  obtain ⟨hP, hD⟩ := va_join (wr := [(qm, .inl (cM, 12, .inr (.inr (.inr (.inr (fun _ => none)))))), (qt, .inl (cT, 4, .inr (.inr (.inr (.inr (fun _ => none)))))), (l2, .inr (1, [.int 0, .ref a0, .int 0])), (qd, .inl (cD, 1, .inr (.inr (.inr (.inl (fun _ => 0))))))]) (w1 := []) hP hD [4] [0, 1, 2, 3] rfl rfl (by decide) (by decide) hk1 hFc hP1 hD1
  have hK := (hK.sub (tys' := [(cM, .object "Haltingale$Machine"), (cT, .object "Haltingale$Tag"), (cL, .long), (cD, .double)]) [0, 1, 2, 3] rfl).app hK1
  generalize H1 = H at hP hS ⊢
  have hP : va_P (dC, dI) vwCl [(qm, .inl (cM, 12, .inr (.inr (.inr (.inr (fun _ => none)))))), (qt, .inl (cT, 4, .inr (.inr (.inr (.inr (fun _ => none)))))), (l2, .inr (1, [.int 0, .ref a0, .int 0])), (qd, .inl (cD, 1, .inr (.inr (.inr (.inl (fun _ => 0))))))] H := hP
  have hD : va_D A [(qm, .inl (cM, 12, .inr (.inr (.inr (.inr (fun _ => none)))))), (qt, .inl (cT, 4, .inr (.inr (.inr (.inr (fun _ => none)))))), (l2, .inr (1, [.int 0, .ref a0, .int 0])), (qd, .inl (cD, 1, .inr (.inr (.inr (.inl (fun _ => 0))))))] := hD
  have hK : va_K (dC, dI) vwCl [(cM, .object "Haltingale$Machine"), (cT, .object "Haltingale$Tag"), (cL, .long), (cD, .double)] s := hK
  refine W.widen (k := 32) (n := 4330) (Nat.le_of_ble_eq_true rfl) (Nat.le_of_ble_eq_true rfl) ?_
  obtain rfl : r_5 = 1 := hw
  refine lv_iload hx hb dL_law_1765 (lv_at hl 1 rfl) ?_
  refine lv_icmp_eq (tgt := 1772) hx hb dL_law_1767 (by decide) (fun c_6 => ?_) (fun c_6 => ?_)
  rotate_left
  · (first | exact absurd c_6 (by decide) | exact absurd (by decide) c_6)
  refine lv_iload hx hb dL_law_1772 (lv_at hl 1 rfl) ?_
  refine lv_if_ne (tgt := 1789) hx hb dL_law_1774 (by decide) (fun c_7 => ?_) (fun c_7 => ?_)
  rotate_left
  · (first | exact absurd c_7 (by decide) | exact absurd (by decide) c_7)
  refine lv_goto (tgt := 1806) hx hb dL_law_1789 (by decide) ?_
  refine lv_iinc (v := 7) (lv' := [(5, .int 7), (7, .int 0), (6, .int 1), (4, .ref qd), (3, .ref qo), (2, .ref m0), (1, .ref x0), (0, .ref b)]) hx hb dL_law_1806 hl (k := 2) rfl (by decide) (by decide) rfl (fun ls hl => ?_)
  refine lv_goto (tgt := 28) hx hb dL_law_1809 (by decide) ?_
  refine lv_iload hx hb dL_law_28 (lv_at hl 0 rfl) ?_
  refine lv_aload_n hx hb dL_law_30 rfl (lv_at hl 7 rfl) ?_
  refine va_slen hx hb hX hbl hbA hS dL_law_31 ?_
  refine lv_topi (fun x_8 ex_8 => ?_)
  obtain rfl : x_8 = 7 := ex_8.trans (by decide)
  refine lv_bipush (v := 7) hx hb dL_law_32 (by decide) ?_
  refine lv_isub hx hb dL_law_34 ?_
  refine lv_topi (fun x_9 ex_9 => ?_)
  obtain rfl : x_9 = 0 := ex_9.trans (by decide)
  refine lv_icmp_gt (tgt := 1812) hx hb dL_law_35 (by decide) (fun c_10 => ?_) (fun c_10 => ?_)
  rotate_left
  · (first | exact absurd c_10 (by decide) | exact absurd (by decide) c_10)
  refine lv_iconst (v := 1) hx hb dL_law_1812 (by decide) ?_
  refine va_forget (fun q hq => hA2 _ (hS.2.2 q hq)) ?_
  refine W.widen (k := room_1.cells) (n := room_1.slots) (Nat.le_of_ble_eq_true rfl) (Nat.le_of_ble_eq_true rfl) ?_
  exact lw_ret0 hx hb hr hlocks dL_law_1813

set_option maxHeartbeats 4000000 in
set_option maxRecDepth 100000 in
/-- the law, case 0 -/
theorem law_0_no {p : Program} {l : Launch} (hnt : l.stackTraces = false) {e : Env} {s : State} {m : MethodId} {below : List Frame} {meth : Method} {c : Code} {dC : Nat → ClassId} {dI : Nat → Nat → Nat} {a0 b : Nat} {xs : Nat → Int32} (C0 : lw_At p s m meth c b 7 xs) {A : Nat → Prop} (hA : ∀ q : Nat, s.heap.size ≤ q → A q) (hA2 : ∀ q : Nat, A q → s.heap.size ≤ q) (hZ : zB a0 A s s.heap) {x0 : Nat} {qm : Nat} {qt : Nat} {qw : Nat} {qc : Nat} {qb : Nat} {qg : Nat} {m0 : Nat} {l1 : Nat} {l2 : Nat} {qo : Nat} {qd : Nat} {cM : ClassId} {cT : ClassId} {cL : ClassId} {cD : ClassId} {H : Heap} {locs : List Loc} (hK : va_K (dC, dI) vwCl [(cM, .object "Haltingale$Machine"), (cT, .object "Haltingale$Tag"), (cL, .long), (cD, .double)] s) (hP : va_P (dC, dI) vwCl [(x0, .inr (9, [.ref qm, .ref qt, .ref qw, .ref qc, .ref qb, .ref qg, .int 0, .int 0, .int 0, .int 0, .int 0])), (qm, .inl (cM, 12, .inr (.inr (.inr (.inr (fun _ => none)))))), (qt, .inl (cT, 4, .inr (.inr (.inr (.inr (fun _ => none)))))), (m0, .inr (12, [.int 0, .ref l1, .ref l2, .int 0, .int 0, .int 0, .long 0])), (l1, .inr (1, [.int 0, .ref a0, .int 0])), (l2, .inr (1, [.int 0, .ref a0, .int 0])), (qo, .inl (cL, 1, .inr (.inl (fun _ => 0)))), (qd, .inl (cD, 1, .inr (.inr (.inr (.inl (fun _ => 0))))))] H) (hD : va_D A [(x0, .inr (9, [.ref qm, .ref qt, .ref qw, .ref qc, .ref qb, .ref qg, .int 0, .int 0, .int 0, .int 0, .int 0])), (qm, .inl (cM, 12, .inr (.inr (.inr (.inr (fun _ => none)))))), (qt, .inl (cT, 4, .inr (.inr (.inr (.inr (fun _ => none)))))), (m0, .inr (12, [.int 0, .ref l1, .ref l2, .int 0, .int 0, .int 0, .long 0])), (l1, .inr (1, [.int 0, .ref a0, .int 0])), (l2, .inr (1, [.int 0, .ref a0, .int 0])), (qo, .inl (cL, 1, .inr (.inl (fun _ => 0)))), (qd, .inl (cD, 1, .inr (.inr (.inr (.inl (fun _ => 0))))))]) (hS : va_S A s.heap H locs) {ls : Array Slot} (hl : lv_has ls 10 [(5, .int 0), (4, .ref qd), (3, .ref qo), (2, .ref m0), (1, .ref x0), (0, .ref b)]) (hp : zw (xs ((1 : Int32).toNatClampNeg)) 2 4 = 0) : W p l e room_1 s m #[Value.ref b] below meth c H locs 31 4324 (lw_Z below #[Value.ref b] s) (F0 m 152 ls []) := by
  obtain ⟨hx, hb, hr, hml, hown, hts0, hX, hbl, hlocks, hgv⟩ := C0
  have hts : ∀ w ∈ zs_law, w.before #[Value.ref b] s = true := fun w h => hts0 w (zs_law_in w h)
  have hbA : ¬ A b := fun h => absurd (hA2 b h) (Nat.not_le.mpr hbl)
  refine lv_aload_n hx hb dL_law_152 rfl (lv_at hl 4 rfl) ?_
  refine lv_aload_n hx hb dL_law_153 rfl (lv_at hl 5 rfl) ?_
  refine lv_iload hx hb dL_law_154 (lv_at hl 0 rfl) ?_
  refine lv_iconst (v := 1) hx hb dL_law_156 (by decide) ?_
  refine lv_iadd hx hb dL_law_157 ?_
  refine lv_topi (fun x_1 ex_1 => ?_)
  obtain rfl : x_1 = 1 := ex_1.trans (by decide)
  refine va_sld hx hb hX hbl hbA hS (by unfold vp_in; decide) dL_law_158 ?_
  refine lv_aload_n hx hb dL_law_159 rfl (lv_at hl 2 rfl) ?_
  have hPc := hP.sub (ws' := [(x0, .inr (9, [.ref qm, .ref qt, .ref qw, .ref qc, .ref qb, .ref qg, .int 0, .int 0, .int 0, .int 0, .int 0])), (qo, .inl (cL, 1, .inr (.inl (fun _ => 0))))]) [0, 6] rfl
  have hDc := hD.sub (ws' := [(x0, .inr (9, [.ref qm, .ref qt, .ref qw, .ref qc, .ref qb, .ref qg, .int 0, .int 0, .int 0, .int 0, .int 0])), (qo, .inl (cL, 1, .inr (.inl (fun _ => 0))))]) [0, 6] (by decide) rfl
  have hKc := hK.sub (tys' := [(cL, .long)]) [2] rfl
  have hFc := va_free (wc := [(x0, .inr (9, [.ref qm, .ref qt, .ref qw, .ref qc, .ref qb, .ref qg, .int 0, .int 0, .int 0, .int 0, .int 0])), (qo, .inl (cL, 1, .inr (.inl (fun _ => 0))))]) hD hS hA [0, 6] rfl
  have hZc := ((hZ.kept hS.2.1).narrow hFc)
  refine va_calli (vx_runSW (As := [.ref x0, .int (xs ((1 : Int32).toNatClampNeg)), .ref qo]) (rest := []) ⟨hx, hb, hml, hown, hts⟩ (c_L_machine_no l hnt dC dI a0 x0 qm qt qw qc qb qg qo cL ((xs ((1 : Int32).toNatClampNeg))) H.size (by first | assumption | decide)) (vx_cwSW 3 hts (goodIn_of _ (by decide +kernel)) rfl rfl rfl (by decide +kernel) ⟨Nat.le_of_ble_eq_true rfl, Nat.le_of_ble_eq_true rfl⟩) ⟨fun a U g mk q => by obtain ⟨q0, q1, qP, qK, qD, qZ⟩ := q; exact ⟨q0, q1, qP, va_K.moved (u := U) (U := U.calling g mk a) (Vm.Alike.refl U.vm) qK, qD, qZ.call⟩, fun U hU hW => ⟨rfl, by rw [hU], by rw [hU]; exact hPc, va_K.moved hW.alike hKc, hDc.weaken (fun _ _ _ _ => trivial), by rw [hU]; exact hZc.warm hW⟩⟩ rfl rfl hl.1 rfl (lv_room (Nat.le_of_ble_eq_true rfl)) dL_law_160 ⟨Nat.le_of_ble_eq_true rfl, Nat.le_of_ble_eq_true rfl⟩) hS (fun q _ h => hFc q h) hFc (fun r_2 u t H1 locs ht hvm hw hB hz1 hk1 hS => ?_)
  obtain ⟨hP1, hK1, hD1⟩ := hB
  rw [ht] at hP1
  have hK1 := va_K.moved hvm.symm hK1
  obtain ⟨hP, hD⟩ := va_join (wr := [(qm, .inl (cM, 12, .inr (.inr (.inr (.inr (fun _ => none)))))), (qt, .inl (cT, 4, .inr (.inr (.inr (.inr (fun _ => none)))))), (m0, .inr (12, [.int 0, .ref l1, .ref l2, .int 0, .int 0, .int 0, .long 0])), (l1, .inr (1, [.int 0, .ref a0, .int 0])), (l2, .inr (1, [.int 0, .ref a0, .int 0])), (qd, .inl (cD, 1, .inr (.inr (.inr (.inl (fun _ => 0))))))]) (w1 := []) hP hD [0, 6] [1, 2, 3, 4, 5, 7] rfl rfl (by decide) (by decide) hk1 hFc hP1 hD1
  have hK := (hK.sub (tys' := [(cM, .object "Haltingale$Machine"), (cT, .object "Haltingale$Tag"), (cL, .long), (cD, .double)]) [0, 1, 2, 3] rfl).app hK1
  generalize H1 = H at hP hS ⊢
  have hP : va_P (dC, dI) vwCl [(qm, .inl (cM, 12, .inr (.inr (.inr (.inr (fun _ => none)))))), (qt, .inl (cT, 4, .inr (.inr (.inr (.inr (fun _ => none)))))), (m0, .inr (12, [.int 0, .ref l1, .ref l2, .int 0, .int 0, .int 0, .long 0])), (l1, .inr (1, [.int 0, .ref a0, .int 0])), (l2, .inr (1, [.int 0, .ref a0, .int 0])), (qd, .inl (cD, 1, .inr (.inr (.inr (.inl (fun _ => 0))))))] H := hP
  have hD : va_D A [(qm, .inl (cM, 12, .inr (.inr (.inr (.inr (fun _ => none)))))), (qt, .inl (cT, 4, .inr (.inr (.inr (.inr (fun _ => none)))))), (m0, .inr (12, [.int 0, .ref l1, .ref l2, .int 0, .int 0, .int 0, .long 0])), (l1, .inr (1, [.int 0, .ref a0, .int 0])), (l2, .inr (1, [.int 0, .ref a0, .int 0])), (qd, .inl (cD, 1, .inr (.inr (.inr (.inl (fun _ => 0))))))] := hD
  have hK : va_K (dC, dI) vwCl [(cM, .object "Haltingale$Machine"), (cT, .object "Haltingale$Tag"), (cL, .long), (cD, .double)] s := hK
  refine W.widen (k := 32) (n := 4330) (Nat.le_of_ble_eq_true rfl) (Nat.le_of_ble_eq_true rfl) ?_
  obtain rfl : r_2 = 1 := hw
  refine lv_istore (lv' := [(6, .int 1), (5, .int 0), (4, .ref qd), (3, .ref qo), (2, .ref m0), (1, .ref x0), (0, .ref b)]) hx hb dL_law_163 hl (by decide) rfl (fun ls hl => ?_)
  refine lv_aload_n hx hb dL_law_165 rfl (lv_at hl 4 rfl) ?_
  refine lv_aload_n hx hb dL_law_166 rfl (lv_at hl 6 rfl) ?_
  refine lv_iload hx hb dL_law_167 (lv_at hl 1 rfl) ?_
  refine lv_iconst (v := 1) hx hb dL_law_169 (by decide) ?_
  refine lv_iadd hx hb dL_law_170 ?_
  refine lv_topi (fun x_3 ex_3 => ?_)
  obtain rfl : x_3 = 1 := ex_3.trans (by decide)
  refine va_sld hx hb hX hbl hbA hS (by unfold vp_in; decide) dL_law_171 ?_
  have hPc := hP.sub (ws' := [(m0, .inr (12, [.int 0, .ref l1, .ref l2, .int 0, .int 0, .int 0, .long 0]))]) [2] rfl
  have hDc := hD.sub (ws' := [(m0, .inr (12, [.int 0, .ref l1, .ref l2, .int 0, .int 0, .int 0, .long 0]))]) [2] (by decide) rfl
  have hKc := hK.sub (tys' := []) [] rfl
  have hFc := va_free (wc := [(m0, .inr (12, [.int 0, .ref l1, .ref l2, .int 0, .int 0, .int 0, .long 0]))]) hD hS hA [2] rfl
  have hZc := ((hZ.kept hS.2.1).narrow hFc)
  refine va_calli (va_runV (As := [.int (xs ((1 : Int32).toNatClampNeg))]) (rest := []) ⟨hx, hb, hml, hown, hts⟩ (c_X10_machine_no l hnt dC dI a0 m0 l1 l2 ((xs ((1 : Int32).toNatClampNeg))) H.size (by first | assumption | decide)) (cwV 1 hts (goodIn_of _ (by decide +kernel)) rfl rfl rfl (by decide +kernel) ⟨Nat.le_of_ble_eq_true rfl, Nat.le_of_ble_eq_true rfl⟩) ⟨fun a U g mk q => by obtain ⟨q0, q1, qP, qK, qD, qZ⟩ := q; exact ⟨q0, q1, qP, va_K.moved (u := U) (U := U.calling g mk a) (Vm.Alike.refl U.vm) qK, qD, qZ.call⟩, va_recv hKc hPc (ci := 12) (q0 := 0) rfl rfl, fun U hU hW => ⟨rfl, by rw [hU], by rw [hU]; exact hPc, va_K.moved hW.alike hKc, hDc.weaken (fun _ _ _ _ => trivial), by rw [hU]; exact hZc.warm hW⟩⟩ rfl rfl hl.1 rfl (lv_room (Nat.le_of_ble_eq_true rfl)) dL_law_172 ⟨Nat.le_of_ble_eq_true rfl, Nat.le_of_ble_eq_true rfl⟩) hS (fun q _ h => hFc q h) hFc (fun r_4 u t H1 locs ht hvm hw hB hz1 hk1 hS => ?_)
  obtain ⟨hP1, hK1, hD1⟩ := hB
  rw [ht] at hP1
  have hK1 := va_K.moved hvm.symm hK1
  obtain ⟨hP, hD⟩ := va_join (wr := [(qm, .inl (cM, 12, .inr (.inr (.inr (.inr (fun _ => none)))))), (qt, .inl (cT, 4, .inr (.inr (.inr (.inr (fun _ => none)))))), (l1, .inr (1, [.int 0, .ref a0, .int 0])), (l2, .inr (1, [.int 0, .ref a0, .int 0])), (qd, .inl (cD, 1, .inr (.inr (.inr (.inl (fun _ => 0))))))]) (w1 := [(m0, .inr (12, [.int 1, .ref l1, .ref l2, .int 0, .int 0, .int 0, .long 0]))]) hP hD [2] [0, 1, 3, 4, 5] rfl rfl (by decide) (by decide) hk1 hFc hP1 hD1
  have hK := (hK.sub (tys' := [(cM, .object "Haltingale$Machine"), (cT, .object "Haltingale$Tag"), (cL, .long), (cD, .double)]) [0, 1, 2, 3] rfl).app hK1
  generalize H1 = H at hP hS ⊢
  have hP : va_P (dC, dI) vwCl [(qm, .inl (cM, 12, .inr (.inr (.inr (.inr (fun _ => none)))))), (qt, .inl (cT, 4, .inr (.inr (.inr (.inr (fun _ => none)))))), (l1, .inr (1, [.int 0, .ref a0, .int 0])), (l2, .inr (1, [.int 0, .ref a0, .int 0])), (qd, .inl (cD, 1, .inr (.inr (.inr (.inl (fun _ => 0)))))), (m0, .inr (12, [.int 1, .ref l1, .ref l2, .int 0, .int 0, .int 0, .long 0]))] H := hP
  have hD : va_D A [(qm, .inl (cM, 12, .inr (.inr (.inr (.inr (fun _ => none)))))), (qt, .inl (cT, 4, .inr (.inr (.inr (.inr (fun _ => none)))))), (l1, .inr (1, [.int 0, .ref a0, .int 0])), (l2, .inr (1, [.int 0, .ref a0, .int 0])), (qd, .inl (cD, 1, .inr (.inr (.inr (.inl (fun _ => 0)))))), (m0, .inr (12, [.int 1, .ref l1, .ref l2, .int 0, .int 0, .int 0, .long 0]))] := hD
  have hK : va_K (dC, dI) vwCl [(cM, .object "Haltingale$Machine"), (cT, .object "Haltingale$Tag"), (cL, .long), (cD, .double)] s := hK
  refine W.widen (k := 32) (n := 4330) (Nat.le_of_ble_eq_true rfl) (Nat.le_of_ble_eq_true rfl) ?_
  obtain rfl : r_4 = 0 := hw
  refine lv_istore (lv' := [(7, .int 0), (6, .int 1), (5, .int 0), (4, .ref qd), (3, .ref qo), (2, .ref m0), (1, .ref x0), (0, .ref b)]) hx hb dL_law_175 hl (by decide) rfl (fun ls hl => ?_)
  refine lv_aload_n hx hb dL_law_177 rfl (lv_at hl 5 rfl) ?_
  have hPc := hP.sub (ws' := [(m0, .inr (12, [.int 1, .ref l1, .ref l2, .int 0, .int 0, .int 0, .long 0]))]) [5] rfl
  have hDc := hD.sub (ws' := [(m0, .inr (12, [.int 1, .ref l1, .ref l2, .int 0, .int 0, .int 0, .long 0]))]) [5] (by decide) rfl
  have hKc := hK.sub (tys' := []) [] rfl
  have hFc := va_free (wc := [(m0, .inr (12, [.int 1, .ref l1, .ref l2, .int 0, .int 0, .int 0, .long 0]))]) hD hS hA [5] rfl
  have hZc := ((hZ.kept hS.2.1).narrow hFc)
  refine va_calli (va_runV (As := []) (rest := []) ⟨hx, hb, hml, hown, hts⟩ (c_X10_thrown l hnt dC dI a0 m0 l1 l2 1 H.size ) (cwV 0 hts (goodIn_of _ (by decide +kernel)) rfl rfl rfl (by decide +kernel) ⟨Nat.le_of_ble_eq_true rfl, Nat.le_of_ble_eq_true rfl⟩) ⟨fun a U g mk q => by obtain ⟨q0, q1, qP, qK, qD, qZ⟩ := q; exact ⟨q0, q1, qP, va_K.moved (u := U) (U := U.calling g mk a) (Vm.Alike.refl U.vm) qK, qD, qZ.call⟩, va_recv hKc hPc (ci := 12) (q0 := 0) rfl rfl, fun U hU hW => ⟨rfl, by rw [hU], by rw [hU]; exact hPc, va_K.moved hW.alike hKc, hDc.weaken (fun _ _ _ _ => trivial), by rw [hU]; exact hZc.warm hW⟩⟩ rfl rfl hl.1 rfl (lv_room (Nat.le_of_ble_eq_true rfl)) dL_law_178 ⟨Nat.le_of_ble_eq_true rfl, Nat.le_of_ble_eq_true rfl⟩) hS (fun q _ h => hFc q h) hFc (fun r_5 u t H1 locs ht hvm hw hB hz1 hk1 hS => ?_)
  obtain ⟨hP1, hK1, hD1⟩ := hB
  rw [ht] at hP1
  have hK1 := va_K.moved hvm.symm hK1
  obtain ⟨hP, hD⟩ := va_join (wr := [(qm, .inl (cM, 12, .inr (.inr (.inr (.inr (fun _ => none)))))), (qt, .inl (cT, 4, .inr (.inr (.inr (.inr (fun _ => none)))))), (l1, .inr (1, [.int 0, .ref a0, .int 0])), (l2, .inr (1, [.int 0, .ref a0, .int 0])), (qd, .inl (cD, 1, .inr (.inr (.inr (.inl (fun _ => 0))))))]) (w1 := []) hP hD [5] [0, 1, 2, 3, 4] rfl rfl (by decide) (by decide) hk1 hFc hP1 hD1
  have hK := (hK.sub (tys' := [(cM, .object "Haltingale$Machine"), (cT, .object "Haltingale$Tag"), (cL, .long), (cD, .double)]) [0, 1, 2, 3] rfl).app hK1
  generalize H1 = H at hP hS ⊢
  have hP : va_P (dC, dI) vwCl [(qm, .inl (cM, 12, .inr (.inr (.inr (.inr (fun _ => none)))))), (qt, .inl (cT, 4, .inr (.inr (.inr (.inr (fun _ => none)))))), (l1, .inr (1, [.int 0, .ref a0, .int 0])), (l2, .inr (1, [.int 0, .ref a0, .int 0])), (qd, .inl (cD, 1, .inr (.inr (.inr (.inl (fun _ => 0))))))] H := hP
  have hD : va_D A [(qm, .inl (cM, 12, .inr (.inr (.inr (.inr (fun _ => none)))))), (qt, .inl (cT, 4, .inr (.inr (.inr (.inr (fun _ => none)))))), (l1, .inr (1, [.int 0, .ref a0, .int 0])), (l2, .inr (1, [.int 0, .ref a0, .int 0])), (qd, .inl (cD, 1, .inr (.inr (.inr (.inl (fun _ => 0))))))] := hD
  have hK : va_K (dC, dI) vwCl [(cM, .object "Haltingale$Machine"), (cT, .object "Haltingale$Tag"), (cL, .long), (cD, .double)] s := hK
  refine W.widen (k := 32) (n := 4330) (Nat.le_of_ble_eq_true rfl) (Nat.le_of_ble_eq_true rfl) ?_
  obtain rfl : r_5 = 1 := hw
  refine lv_iload hx hb dL_law_181 (lv_at hl 1 rfl) ?_
  refine lv_icmp_eq (tgt := 188) hx hb dL_law_183 (by decide) (fun c_6 => ?_) (fun c_6 => ?_)
  rotate_left
  · (first | exact absurd c_6 (by decide) | exact absurd (by decide) c_6)
  refine lv_iload hx hb dL_law_188 (lv_at hl 1 rfl) ?_
  refine lv_if_ne (tgt := 205) hx hb dL_law_190 (by decide) (fun c_7 => ?_) (fun c_7 => ?_)
  rotate_left
  · (first | exact absurd c_7 (by decide) | exact absurd (by decide) c_7)
  refine lv_goto (tgt := 1806) hx hb dL_law_205 (by decide) ?_
  refine lv_iinc (v := 7) (lv' := [(5, .int 7), (7, .int 0), (6, .int 1), (4, .ref qd), (3, .ref qo), (2, .ref m0), (1, .ref x0), (0, .ref b)]) hx hb dL_law_1806 hl (k := 2) rfl (by decide) (by decide) rfl (fun ls hl => ?_)
  refine lv_goto (tgt := 28) hx hb dL_law_1809 (by decide) ?_
  refine lv_iload hx hb dL_law_28 (lv_at hl 0 rfl) ?_
  refine lv_aload_n hx hb dL_law_30 rfl (lv_at hl 7 rfl) ?_
  refine va_slen hx hb hX hbl hbA hS dL_law_31 ?_
  refine lv_topi (fun x_8 ex_8 => ?_)
  obtain rfl : x_8 = 7 := ex_8.trans (by decide)
  refine lv_bipush (v := 7) hx hb dL_law_32 (by decide) ?_
  refine lv_isub hx hb dL_law_34 ?_
  refine lv_topi (fun x_9 ex_9 => ?_)
  obtain rfl : x_9 = 0 := ex_9.trans (by decide)
  refine lv_icmp_gt (tgt := 1812) hx hb dL_law_35 (by decide) (fun c_10 => ?_) (fun c_10 => ?_)
  rotate_left
  · (first | exact absurd c_10 (by decide) | exact absurd (by decide) c_10)
  refine lv_iconst (v := 1) hx hb dL_law_1812 (by decide) ?_
  refine va_forget (fun q hq => hA2 _ (hS.2.2 q hq)) ?_
  refine W.widen (k := room_1.cells) (n := room_1.slots) (Nat.le_of_ble_eq_true rfl) (Nat.le_of_ble_eq_true rfl) ?_
  exact lw_ret0 hx hb hr hlocks dL_law_1813

set_option maxHeartbeats 4000000 in
set_option maxRecDepth 100000 in
/-- the law, case 6 -/
theorem law_6_no {p : Program} {l : Launch} (hnt : l.stackTraces = false) {e : Env} {s : State} {m : MethodId} {below : List Frame} {meth : Method} {c : Code} {dC : Nat → ClassId} {dI : Nat → Nat → Nat} {a0 b : Nat} {xs : Nat → Int32} (C0 : lw_At p s m meth c b 7 xs) {A : Nat → Prop} (hA : ∀ q : Nat, s.heap.size ≤ q → A q) (hA2 : ∀ q : Nat, A q → s.heap.size ≤ q) (hZ : zB a0 A s s.heap) {x0 : Nat} {qm : Nat} {qt : Nat} {qw : Nat} {qc : Nat} {qb : Nat} {qg : Nat} {m0 : Nat} {l1 : Nat} {l2 : Nat} {qo : Nat} {qd : Nat} {cM : ClassId} {cT : ClassId} {cL : ClassId} {cD : ClassId} {H : Heap} {locs : List Loc} (hK : va_K (dC, dI) vwCl [(cM, .object "Haltingale$Machine"), (cT, .object "Haltingale$Tag"), (cL, .long), (cD, .double)] s) (hP : va_P (dC, dI) vwCl [(x0, .inr (9, [.ref qm, .ref qt, .ref qw, .ref qc, .ref qb, .ref qg, .int 0, .int 0, .int 0, .int 0, .int 0])), (qm, .inl (cM, 12, .inr (.inr (.inr (.inr (fun _ => none)))))), (qt, .inl (cT, 4, .inr (.inr (.inr (.inr (fun _ => none)))))), (m0, .inr (12, [.int 0, .ref l1, .ref l2, .int 0, .int 0, .int 0, .long 0])), (l1, .inr (1, [.int 0, .ref a0, .int 0])), (l2, .inr (1, [.int 0, .ref a0, .int 0])), (qo, .inl (cL, 1, .inr (.inl (fun _ => 0)))), (qd, .inl (cD, 1, .inr (.inr (.inr (.inl (fun _ => 0))))))] H) (hD : va_D A [(x0, .inr (9, [.ref qm, .ref qt, .ref qw, .ref qc, .ref qb, .ref qg, .int 0, .int 0, .int 0, .int 0, .int 0])), (qm, .inl (cM, 12, .inr (.inr (.inr (.inr (fun _ => none)))))), (qt, .inl (cT, 4, .inr (.inr (.inr (.inr (fun _ => none)))))), (m0, .inr (12, [.int 0, .ref l1, .ref l2, .int 0, .int 0, .int 0, .long 0])), (l1, .inr (1, [.int 0, .ref a0, .int 0])), (l2, .inr (1, [.int 0, .ref a0, .int 0])), (qo, .inl (cL, 1, .inr (.inl (fun _ => 0)))), (qd, .inl (cD, 1, .inr (.inr (.inr (.inl (fun _ => 0))))))]) (hS : va_S A s.heap H locs) {ls : Array Slot} (hl : lv_has ls 10 [(5, .int 0), (4, .ref qd), (3, .ref qo), (2, .ref m0), (1, .ref x0), (0, .ref b)]) (hp : zw (xs ((1 : Int32).toNatClampNeg)) 0 3 = 0) : W p l e room_1 s m #[Value.ref b] below meth c H locs 31 4324 (lw_Z below #[Value.ref b] s) (F0 m 698 ls []) := by
  obtain ⟨hx, hb, hr, hml, hown, hts0, hX, hbl, hlocks, hgv⟩ := C0
  have hts : ∀ w ∈ zs_law, w.before #[Value.ref b] s = true := fun w h => hts0 w (zs_law_in w h)
  have hbA : ¬ A b := fun h => absurd (hA2 b h) (Nat.not_le.mpr hbl)
  refine lv_aload_n hx hb dL_law_698 rfl (lv_at hl 4 rfl) ?_
  refine lv_aload_n hx hb dL_law_699 rfl (lv_at hl 5 rfl) ?_
  refine lv_iload hx hb dL_law_700 (lv_at hl 0 rfl) ?_
  refine lv_iconst (v := 1) hx hb dL_law_702 (by decide) ?_
  refine lv_iadd hx hb dL_law_703 ?_
  refine lv_topi (fun x_1 ex_1 => ?_)
  obtain rfl : x_1 = 1 := ex_1.trans (by decide)
  refine va_sld hx hb hX hbl hbA hS (by unfold vp_in; decide) dL_law_704 ?_
  refine lv_aload_n hx hb dL_law_705 rfl (lv_at hl 2 rfl) ?_
  have hPc := hP.sub (ws' := [(x0, .inr (9, [.ref qm, .ref qt, .ref qw, .ref qc, .ref qb, .ref qg, .int 0, .int 0, .int 0, .int 0, .int 0])), (qo, .inl (cL, 1, .inr (.inl (fun _ => 0))))]) [0, 6] rfl
  have hDc := hD.sub (ws' := [(x0, .inr (9, [.ref qm, .ref qt, .ref qw, .ref qc, .ref qb, .ref qg, .int 0, .int 0, .int 0, .int 0, .int 0])), (qo, .inl (cL, 1, .inr (.inl (fun _ => 0))))]) [0, 6] (by decide) rfl
  have hKc := hK.sub (tys' := [(cL, .long)]) [2] rfl
  have hFc := va_free (wc := [(x0, .inr (9, [.ref qm, .ref qt, .ref qw, .ref qc, .ref qb, .ref qg, .int 0, .int 0, .int 0, .int 0, .int 0])), (qo, .inl (cL, 1, .inr (.inl (fun _ => 0))))]) hD hS hA [0, 6] rfl
  have hZc := ((hZ.kept hS.2.1).narrow hFc)
  refine va_calli (vx_runSW (As := [.ref x0, .int (xs ((1 : Int32).toNatClampNeg)), .ref qo]) (rest := []) ⟨hx, hb, hml, hown, hts⟩ (c_L_doubt_no l hnt dC dI a0 x0 qm qt qw qc qb qg qo cL ((xs ((1 : Int32).toNatClampNeg))) H.size (by first | assumption | decide)) (vx_cwSW 3 hts (goodIn_of _ (by decide +kernel)) rfl rfl rfl (by decide +kernel) ⟨Nat.le_of_ble_eq_true rfl, Nat.le_of_ble_eq_true rfl⟩) ⟨fun a U g mk q => by obtain ⟨q0, q1, qP, qK, qD, qZ⟩ := q; exact ⟨q0, q1, qP, va_K.moved (u := U) (U := U.calling g mk a) (Vm.Alike.refl U.vm) qK, qD, qZ.call⟩, fun U hU hW => ⟨rfl, by rw [hU], by rw [hU]; exact hPc, va_K.moved hW.alike hKc, hDc.weaken (fun _ _ _ _ => trivial), by rw [hU]; exact hZc.warm hW⟩⟩ rfl rfl hl.1 rfl (lv_room (Nat.le_of_ble_eq_true rfl)) dL_law_706 ⟨Nat.le_of_ble_eq_true rfl, Nat.le_of_ble_eq_true rfl⟩) hS (fun q _ h => hFc q h) hFc (fun r_2 u t H1 locs ht hvm hw hB hz1 hk1 hS => ?_)
  obtain ⟨hP1, hK1, hD1⟩ := hB
  rw [ht] at hP1
  have hK1 := va_K.moved hvm.symm hK1
  obtain ⟨hP, hD⟩ := va_join (wr := [(qm, .inl (cM, 12, .inr (.inr (.inr (.inr (fun _ => none)))))), (qt, .inl (cT, 4, .inr (.inr (.inr (.inr (fun _ => none)))))), (m0, .inr (12, [.int 0, .ref l1, .ref l2, .int 0, .int 0, .int 0, .long 0])), (l1, .inr (1, [.int 0, .ref a0, .int 0])), (l2, .inr (1, [.int 0, .ref a0, .int 0])), (qd, .inl (cD, 1, .inr (.inr (.inr (.inl (fun _ => 0))))))]) (w1 := []) hP hD [0, 6] [1, 2, 3, 4, 5, 7] rfl rfl (by decide) (by decide) hk1 hFc hP1 hD1
  have hK := (hK.sub (tys' := [(cM, .object "Haltingale$Machine"), (cT, .object "Haltingale$Tag"), (cL, .long), (cD, .double)]) [0, 1, 2, 3] rfl).app hK1
  generalize H1 = H at hP hS ⊢
  have hP : va_P (dC, dI) vwCl [(qm, .inl (cM, 12, .inr (.inr (.inr (.inr (fun _ => none)))))), (qt, .inl (cT, 4, .inr (.inr (.inr (.inr (fun _ => none)))))), (m0, .inr (12, [.int 0, .ref l1, .ref l2, .int 0, .int 0, .int 0, .long 0])), (l1, .inr (1, [.int 0, .ref a0, .int 0])), (l2, .inr (1, [.int 0, .ref a0, .int 0])), (qd, .inl (cD, 1, .inr (.inr (.inr (.inl (fun _ => 0))))))] H := hP
  have hD : va_D A [(qm, .inl (cM, 12, .inr (.inr (.inr (.inr (fun _ => none)))))), (qt, .inl (cT, 4, .inr (.inr (.inr (.inr (fun _ => none)))))), (m0, .inr (12, [.int 0, .ref l1, .ref l2, .int 0, .int 0, .int 0, .long 0])), (l1, .inr (1, [.int 0, .ref a0, .int 0])), (l2, .inr (1, [.int 0, .ref a0, .int 0])), (qd, .inl (cD, 1, .inr (.inr (.inr (.inl (fun _ => 0))))))] := hD
  have hK : va_K (dC, dI) vwCl [(cM, .object "Haltingale$Machine"), (cT, .object "Haltingale$Tag"), (cL, .long), (cD, .double)] s := hK
  refine W.widen (k := 32) (n := 4330) (Nat.le_of_ble_eq_true rfl) (Nat.le_of_ble_eq_true rfl) ?_
  obtain rfl : r_2 = 1 := hw
  refine lv_istore (lv' := [(6, .int 1), (5, .int 0), (4, .ref qd), (3, .ref qo), (2, .ref m0), (1, .ref x0), (0, .ref b)]) hx hb dL_law_709 hl (by decide) rfl (fun ls hl => ?_)
  refine lv_aload_n hx hb dL_law_711 rfl (lv_at hl 4 rfl) ?_
  refine lv_aload_n hx hb dL_law_712 rfl (lv_at hl 6 rfl) ?_
  refine lv_iload hx hb dL_law_713 (lv_at hl 1 rfl) ?_
  refine lv_iconst (v := 1) hx hb dL_law_715 (by decide) ?_
  refine lv_iadd hx hb dL_law_716 ?_
  refine lv_topi (fun x_3 ex_3 => ?_)
  obtain rfl : x_3 = 1 := ex_3.trans (by decide)
  refine va_sld hx hb hX hbl hbA hS (by unfold vp_in; decide) dL_law_717 ?_
  have hPc := hP.sub (ws' := [(m0, .inr (12, [.int 0, .ref l1, .ref l2, .int 0, .int 0, .int 0, .long 0]))]) [2] rfl
  have hDc := hD.sub (ws' := [(m0, .inr (12, [.int 0, .ref l1, .ref l2, .int 0, .int 0, .int 0, .long 0]))]) [2] (by decide) rfl
  have hKc := hK.sub (tys' := []) [] rfl
  have hFc := va_free (wc := [(m0, .inr (12, [.int 0, .ref l1, .ref l2, .int 0, .int 0, .int 0, .long 0]))]) hD hS hA [2] rfl
  have hZc := ((hZ.kept hS.2.1).narrow hFc)
  refine va_calli (va_runV (As := [.int (xs ((1 : Int32).toNatClampNeg))]) (rest := []) ⟨hx, hb, hml, hown, hts⟩ (c_X10_doubt_no l hnt dC dI a0 m0 l1 l2 ((xs ((1 : Int32).toNatClampNeg))) H.size (by first | assumption | decide)) (cwV 1 hts (goodIn_of _ (by decide +kernel)) rfl rfl rfl (by decide +kernel) ⟨Nat.le_of_ble_eq_true rfl, Nat.le_of_ble_eq_true rfl⟩) ⟨fun a U g mk q => by obtain ⟨q0, q1, qP, qK, qD, qZ⟩ := q; exact ⟨q0, q1, qP, va_K.moved (u := U) (U := U.calling g mk a) (Vm.Alike.refl U.vm) qK, qD, qZ.call⟩, va_recv hKc hPc (ci := 12) (q0 := 0) rfl rfl, fun U hU hW => ⟨rfl, by rw [hU], by rw [hU]; exact hPc, va_K.moved hW.alike hKc, hDc.weaken (fun _ _ _ _ => trivial), by rw [hU]; exact hZc.warm hW⟩⟩ rfl rfl hl.1 rfl (lv_room (Nat.le_of_ble_eq_true rfl)) dL_law_718 ⟨Nat.le_of_ble_eq_true rfl, Nat.le_of_ble_eq_true rfl⟩) hS (fun q _ h => hFc q h) hFc (fun r_4 u t H1 locs ht hvm hw hB hz1 hk1 hS => ?_)
  obtain ⟨hP1, hK1, hD1⟩ := hB
  rw [ht] at hP1
  have hK1 := va_K.moved hvm.symm hK1
  obtain ⟨hP, hD⟩ := va_join (wr := [(qm, .inl (cM, 12, .inr (.inr (.inr (.inr (fun _ => none)))))), (qt, .inl (cT, 4, .inr (.inr (.inr (.inr (fun _ => none)))))), (l1, .inr (1, [.int 0, .ref a0, .int 0])), (l2, .inr (1, [.int 0, .ref a0, .int 0])), (qd, .inl (cD, 1, .inr (.inr (.inr (.inl (fun _ => 0))))))]) (w1 := [(m0, .inr (12, [.int 1, .ref l1, .ref l2, .int 0, .int 0, .int 0, .long 0]))]) hP hD [2] [0, 1, 3, 4, 5] rfl rfl (by decide) (by decide) hk1 hFc hP1 hD1
  have hK := (hK.sub (tys' := [(cM, .object "Haltingale$Machine"), (cT, .object "Haltingale$Tag"), (cL, .long), (cD, .double)]) [0, 1, 2, 3] rfl).app hK1
  generalize H1 = H at hP hS ⊢
  have hP : va_P (dC, dI) vwCl [(qm, .inl (cM, 12, .inr (.inr (.inr (.inr (fun _ => none)))))), (qt, .inl (cT, 4, .inr (.inr (.inr (.inr (fun _ => none)))))), (l1, .inr (1, [.int 0, .ref a0, .int 0])), (l2, .inr (1, [.int 0, .ref a0, .int 0])), (qd, .inl (cD, 1, .inr (.inr (.inr (.inl (fun _ => 0)))))), (m0, .inr (12, [.int 1, .ref l1, .ref l2, .int 0, .int 0, .int 0, .long 0]))] H := hP
  have hD : va_D A [(qm, .inl (cM, 12, .inr (.inr (.inr (.inr (fun _ => none)))))), (qt, .inl (cT, 4, .inr (.inr (.inr (.inr (fun _ => none)))))), (l1, .inr (1, [.int 0, .ref a0, .int 0])), (l2, .inr (1, [.int 0, .ref a0, .int 0])), (qd, .inl (cD, 1, .inr (.inr (.inr (.inl (fun _ => 0)))))), (m0, .inr (12, [.int 1, .ref l1, .ref l2, .int 0, .int 0, .int 0, .long 0]))] := hD
  have hK : va_K (dC, dI) vwCl [(cM, .object "Haltingale$Machine"), (cT, .object "Haltingale$Tag"), (cL, .long), (cD, .double)] s := hK
  refine W.widen (k := 32) (n := 4330) (Nat.le_of_ble_eq_true rfl) (Nat.le_of_ble_eq_true rfl) ?_
  obtain rfl : r_4 = 0 := hw
  refine lv_istore (lv' := [(7, .int 0), (6, .int 1), (5, .int 0), (4, .ref qd), (3, .ref qo), (2, .ref m0), (1, .ref x0), (0, .ref b)]) hx hb dL_law_721 hl (by decide) rfl (fun ls hl => ?_)
  refine lv_aload_n hx hb dL_law_723 rfl (lv_at hl 5 rfl) ?_
  have hPc := hP.sub (ws' := [(m0, .inr (12, [.int 1, .ref l1, .ref l2, .int 0, .int 0, .int 0, .long 0]))]) [5] rfl
  have hDc := hD.sub (ws' := [(m0, .inr (12, [.int 1, .ref l1, .ref l2, .int 0, .int 0, .int 0, .long 0]))]) [5] (by decide) rfl
  have hKc := hK.sub (tys' := []) [] rfl
  have hFc := va_free (wc := [(m0, .inr (12, [.int 1, .ref l1, .ref l2, .int 0, .int 0, .int 0, .long 0]))]) hD hS hA [5] rfl
  have hZc := ((hZ.kept hS.2.1).narrow hFc)
  refine va_calli (va_runV (As := []) (rest := []) ⟨hx, hb, hml, hown, hts⟩ (c_X10_thrown l hnt dC dI a0 m0 l1 l2 1 H.size ) (cwV 0 hts (goodIn_of _ (by decide +kernel)) rfl rfl rfl (by decide +kernel) ⟨Nat.le_of_ble_eq_true rfl, Nat.le_of_ble_eq_true rfl⟩) ⟨fun a U g mk q => by obtain ⟨q0, q1, qP, qK, qD, qZ⟩ := q; exact ⟨q0, q1, qP, va_K.moved (u := U) (U := U.calling g mk a) (Vm.Alike.refl U.vm) qK, qD, qZ.call⟩, va_recv hKc hPc (ci := 12) (q0 := 0) rfl rfl, fun U hU hW => ⟨rfl, by rw [hU], by rw [hU]; exact hPc, va_K.moved hW.alike hKc, hDc.weaken (fun _ _ _ _ => trivial), by rw [hU]; exact hZc.warm hW⟩⟩ rfl rfl hl.1 rfl (lv_room (Nat.le_of_ble_eq_true rfl)) dL_law_724 ⟨Nat.le_of_ble_eq_true rfl, Nat.le_of_ble_eq_true rfl⟩) hS (fun q _ h => hFc q h) hFc (fun r_5 u t H1 locs ht hvm hw hB hz1 hk1 hS => ?_)
  obtain ⟨hP1, hK1, hD1⟩ := hB
  rw [ht] at hP1
  have hK1 := va_K.moved hvm.symm hK1
  obtain ⟨hP, hD⟩ := va_join (wr := [(qm, .inl (cM, 12, .inr (.inr (.inr (.inr (fun _ => none)))))), (qt, .inl (cT, 4, .inr (.inr (.inr (.inr (fun _ => none)))))), (l1, .inr (1, [.int 0, .ref a0, .int 0])), (l2, .inr (1, [.int 0, .ref a0, .int 0])), (qd, .inl (cD, 1, .inr (.inr (.inr (.inl (fun _ => 0))))))]) (w1 := []) hP hD [5] [0, 1, 2, 3, 4] rfl rfl (by decide) (by decide) hk1 hFc hP1 hD1
  have hK := (hK.sub (tys' := [(cM, .object "Haltingale$Machine"), (cT, .object "Haltingale$Tag"), (cL, .long), (cD, .double)]) [0, 1, 2, 3] rfl).app hK1
  generalize H1 = H at hP hS ⊢
  have hP : va_P (dC, dI) vwCl [(qm, .inl (cM, 12, .inr (.inr (.inr (.inr (fun _ => none)))))), (qt, .inl (cT, 4, .inr (.inr (.inr (.inr (fun _ => none)))))), (l1, .inr (1, [.int 0, .ref a0, .int 0])), (l2, .inr (1, [.int 0, .ref a0, .int 0])), (qd, .inl (cD, 1, .inr (.inr (.inr (.inl (fun _ => 0))))))] H := hP
  have hD : va_D A [(qm, .inl (cM, 12, .inr (.inr (.inr (.inr (fun _ => none)))))), (qt, .inl (cT, 4, .inr (.inr (.inr (.inr (fun _ => none)))))), (l1, .inr (1, [.int 0, .ref a0, .int 0])), (l2, .inr (1, [.int 0, .ref a0, .int 0])), (qd, .inl (cD, 1, .inr (.inr (.inr (.inl (fun _ => 0))))))] := hD
  have hK : va_K (dC, dI) vwCl [(cM, .object "Haltingale$Machine"), (cT, .object "Haltingale$Tag"), (cL, .long), (cD, .double)] s := hK
  refine W.widen (k := 32) (n := 4330) (Nat.le_of_ble_eq_true rfl) (Nat.le_of_ble_eq_true rfl) ?_
  obtain rfl : r_5 = 1 := hw
  refine lv_iload hx hb dL_law_727 (lv_at hl 1 rfl) ?_
  refine lv_icmp_eq (tgt := 734) hx hb dL_law_729 (by decide) (fun c_6 => ?_) (fun c_6 => ?_)
  rotate_left
  · (first | exact absurd c_6 (by decide) | exact absurd (by decide) c_6)
  refine lv_iload hx hb dL_law_734 (lv_at hl 1 rfl) ?_
  refine lv_if_ne (tgt := 751) hx hb dL_law_736 (by decide) (fun c_7 => ?_) (fun c_7 => ?_)
  rotate_left
  · (first | exact absurd c_7 (by decide) | exact absurd (by decide) c_7)
  refine lv_goto (tgt := 1806) hx hb dL_law_751 (by decide) ?_
  refine lv_iinc (v := 7) (lv' := [(5, .int 7), (7, .int 0), (6, .int 1), (4, .ref qd), (3, .ref qo), (2, .ref m0), (1, .ref x0), (0, .ref b)]) hx hb dL_law_1806 hl (k := 2) rfl (by decide) (by decide) rfl (fun ls hl => ?_)
  refine lv_goto (tgt := 28) hx hb dL_law_1809 (by decide) ?_
  refine lv_iload hx hb dL_law_28 (lv_at hl 0 rfl) ?_
  refine lv_aload_n hx hb dL_law_30 rfl (lv_at hl 7 rfl) ?_
  refine va_slen hx hb hX hbl hbA hS dL_law_31 ?_
  refine lv_topi (fun x_8 ex_8 => ?_)
  obtain rfl : x_8 = 7 := ex_8.trans (by decide)
  refine lv_bipush (v := 7) hx hb dL_law_32 (by decide) ?_
  refine lv_isub hx hb dL_law_34 ?_
  refine lv_topi (fun x_9 ex_9 => ?_)
  obtain rfl : x_9 = 0 := ex_9.trans (by decide)
  refine lv_icmp_gt (tgt := 1812) hx hb dL_law_35 (by decide) (fun c_10 => ?_) (fun c_10 => ?_)
  rotate_left
  · (first | exact absurd c_10 (by decide) | exact absurd (by decide) c_10)
  refine lv_iconst (v := 1) hx hb dL_law_1812 (by decide) ?_
  refine va_forget (fun q hq => hA2 _ (hS.2.2 q hq)) ?_
  refine W.widen (k := room_1.cells) (n := room_1.slots) (Nat.le_of_ble_eq_true rfl) (Nat.le_of_ble_eq_true rfl) ?_
  exact lw_ret0 hx hb hr hlocks dL_law_1813

set_option maxHeartbeats 4000000 in
set_option maxRecDepth 100000 in
/-- the law, case 6 -/
theorem law_6_ok {p : Program} {l : Launch} (hnt : l.stackTraces = false) {e : Env} {s : State} {m : MethodId} {below : List Frame} {meth : Method} {c : Code} {dC : Nat → ClassId} {dI : Nat → Nat → Nat} {a0 b : Nat} {xs : Nat → Int32} (C0 : lw_At p s m meth c b 7 xs) {A : Nat → Prop} (hA : ∀ q : Nat, s.heap.size ≤ q → A q) (hA2 : ∀ q : Nat, A q → s.heap.size ≤ q) (hZ : zB a0 A s s.heap) {x0 : Nat} {qm : Nat} {qt : Nat} {qw : Nat} {qc : Nat} {qb : Nat} {qg : Nat} {m0 : Nat} {l1 : Nat} {l2 : Nat} {qo : Nat} {qd : Nat} {cM : ClassId} {cT : ClassId} {cL : ClassId} {cD : ClassId} {H : Heap} {locs : List Loc} (hK : va_K (dC, dI) vwCl [(cM, .object "Haltingale$Machine"), (cT, .object "Haltingale$Tag"), (cL, .long), (cD, .double)] s) (hP : va_P (dC, dI) vwCl [(x0, .inr (9, [.ref qm, .ref qt, .ref qw, .ref qc, .ref qb, .ref qg, .int 0, .int 0, .int 0, .int 0, .int 0])), (qm, .inl (cM, 12, .inr (.inr (.inr (.inr (fun _ => none)))))), (qt, .inl (cT, 4, .inr (.inr (.inr (.inr (fun _ => none)))))), (m0, .inr (12, [.int 0, .ref l1, .ref l2, .int 0, .int 0, .int 0, .long 0])), (l1, .inr (1, [.int 0, .ref a0, .int 0])), (l2, .inr (1, [.int 0, .ref a0, .int 0])), (qo, .inl (cL, 1, .inr (.inl (fun _ => 0)))), (qd, .inl (cD, 1, .inr (.inr (.inr (.inl (fun _ => 0))))))] H) (hD : va_D A [(x0, .inr (9, [.ref qm, .ref qt, .ref qw, .ref qc, .ref qb, .ref qg, .int 0, .int 0, .int 0, .int 0, .int 0])), (qm, .inl (cM, 12, .inr (.inr (.inr (.inr (fun _ => none)))))), (qt, .inl (cT, 4, .inr (.inr (.inr (.inr (fun _ => none)))))), (m0, .inr (12, [.int 0, .ref l1, .ref l2, .int 0, .int 0, .int 0, .long 0])), (l1, .inr (1, [.int 0, .ref a0, .int 0])), (l2, .inr (1, [.int 0, .ref a0, .int 0])), (qo, .inl (cL, 1, .inr (.inl (fun _ => 0)))), (qd, .inl (cD, 1, .inr (.inr (.inr (.inl (fun _ => 0))))))]) (hS : va_S A s.heap H locs) {ls : Array Slot} (hl : lv_has ls 10 [(5, .int 0), (4, .ref qd), (3, .ref qo), (2, .ref m0), (1, .ref x0), (0, .ref b)]) (hp : zw (xs ((1 : Int32).toNatClampNeg)) 0 3 = 1) : W p l e room_1 s m #[Value.ref b] below meth c H locs 31 4324 (lw_Z below #[Value.ref b] s) (F0 m 698 ls []) := by
  obtain ⟨hx, hb, hr, hml, hown, hts0, hX, hbl, hlocks, hgv⟩ := C0
  have hts : ∀ w ∈ zs_law, w.before #[Value.ref b] s = true := fun w h => hts0 w (zs_law_in w h)
  have hbA : ¬ A b := fun h => absurd (hA2 b h) (Nat.not_le.mpr hbl)
  refine lv_aload_n hx hb dL_law_698 rfl (lv_at hl 4 rfl) ?_
  refine lv_aload_n hx hb dL_law_699 rfl (lv_at hl 5 rfl) ?_
  refine lv_iload hx hb dL_law_700 (lv_at hl 0 rfl) ?_
  refine lv_iconst (v := 1) hx hb dL_law_702 (by decide) ?_
  refine lv_iadd hx hb dL_law_703 ?_
  refine lv_topi (fun x_1 ex_1 => ?_)
  obtain rfl : x_1 = 1 := ex_1.trans (by decide)
  refine va_sld hx hb hX hbl hbA hS (by unfold vp_in; decide) dL_law_704 ?_
  refine lv_aload_n hx hb dL_law_705 rfl (lv_at hl 2 rfl) ?_
  have hPc := hP.sub (ws' := [(x0, .inr (9, [.ref qm, .ref qt, .ref qw, .ref qc, .ref qb, .ref qg, .int 0, .int 0, .int 0, .int 0, .int 0])), (qo, .inl (cL, 1, .inr (.inl (fun _ => 0))))]) [0, 6] rfl
  have hDc := hD.sub (ws' := [(x0, .inr (9, [.ref qm, .ref qt, .ref qw, .ref qc, .ref qb, .ref qg, .int 0, .int 0, .int 0, .int 0, .int 0])), (qo, .inl (cL, 1, .inr (.inl (fun _ => 0))))]) [0, 6] (by decide) rfl
  have hKc := hK.sub (tys' := [(cL, .long)]) [2] rfl
  have hFc := va_free (wc := [(x0, .inr (9, [.ref qm, .ref qt, .ref qw, .ref qc, .ref qb, .ref qg, .int 0, .int 0, .int 0, .int 0, .int 0])), (qo, .inl (cL, 1, .inr (.inl (fun _ => 0))))]) hD hS hA [0, 6] rfl
  have hZc := ((hZ.kept hS.2.1).narrow hFc)
  refine va_calli (vx_runSW (As := [.ref x0, .int (xs ((1 : Int32).toNatClampNeg)), .ref qo]) (rest := []) ⟨hx, hb, hml, hown, hts⟩ (c_L_doubt_ok l hnt dC dI a0 x0 qm qt qw qc qb qg qo cL ((xs ((1 : Int32).toNatClampNeg))) H.size (by first | assumption | decide)) (vx_cwSW 3 hts (goodIn_of _ (by decide +kernel)) rfl rfl rfl (by decide +kernel) ⟨Nat.le_of_ble_eq_true rfl, Nat.le_of_ble_eq_true rfl⟩) ⟨fun a U g mk q => by obtain ⟨q0, q1, qP, qK, qD, qZ⟩ := q; exact ⟨q0, q1, qP, va_K.moved (u := U) (U := U.calling g mk a) (Vm.Alike.refl U.vm) qK, qD, qZ.call⟩, fun U hU hW => ⟨rfl, by rw [hU], by rw [hU]; exact hPc, va_K.moved hW.alike hKc, hDc.weaken (fun _ _ _ _ => trivial), by rw [hU]; exact hZc.warm hW⟩⟩ rfl rfl hl.1 rfl (lv_room (Nat.le_of_ble_eq_true rfl)) dL_law_706 ⟨Nat.le_of_ble_eq_true rfl, Nat.le_of_ble_eq_true rfl⟩) hS (fun q _ h => hFc q h) hFc (fun r_2 u t H1 locs ht hvm hw hB hz1 hk1 hS => ?_)
  obtain ⟨hP1, hK1, hD1⟩ := hB
  rw [ht] at hP1
  have hK1 := va_K.moved hvm.symm hK1
  obtain ⟨hP, hD⟩ := va_join (wr := [(qm, .inl (cM, 12, .inr (.inr (.inr (.inr (fun _ => none)))))), (qt, .inl (cT, 4, .inr (.inr (.inr (.inr (fun _ => none)))))), (m0, .inr (12, [.int 0, .ref l1, .ref l2, .int 0, .int 0, .int 0, .long 0])), (l1, .inr (1, [.int 0, .ref a0, .int 0])), (l2, .inr (1, [.int 0, .ref a0, .int 0])), (qd, .inl (cD, 1, .inr (.inr (.inr (.inl (fun _ => 0))))))]) (w1 := [(qo, .inl (cL, 1, .inr (.inl (vp_updL (fun _ => 0) ((0 : Int32).toNatClampNeg) 0))))]) hP hD [0, 6] [1, 2, 3, 4, 5, 7] rfl rfl (by decide) (by decide) hk1 hFc hP1 hD1
  have hK := (hK.sub (tys' := [(cM, .object "Haltingale$Machine"), (cT, .object "Haltingale$Tag"), (cL, .long), (cD, .double)]) [0, 1, 2, 3] rfl).app hK1
  generalize H1 = H at hP hS ⊢
  have hP : va_P (dC, dI) vwCl [(qm, .inl (cM, 12, .inr (.inr (.inr (.inr (fun _ => none)))))), (qt, .inl (cT, 4, .inr (.inr (.inr (.inr (fun _ => none)))))), (m0, .inr (12, [.int 0, .ref l1, .ref l2, .int 0, .int 0, .int 0, .long 0])), (l1, .inr (1, [.int 0, .ref a0, .int 0])), (l2, .inr (1, [.int 0, .ref a0, .int 0])), (qd, .inl (cD, 1, .inr (.inr (.inr (.inl (fun _ => 0)))))), (qo, .inl (cL, 1, .inr (.inl (vp_updL (fun _ => 0) ((0 : Int32).toNatClampNeg) 0))))] H := hP
  have hD : va_D A [(qm, .inl (cM, 12, .inr (.inr (.inr (.inr (fun _ => none)))))), (qt, .inl (cT, 4, .inr (.inr (.inr (.inr (fun _ => none)))))), (m0, .inr (12, [.int 0, .ref l1, .ref l2, .int 0, .int 0, .int 0, .long 0])), (l1, .inr (1, [.int 0, .ref a0, .int 0])), (l2, .inr (1, [.int 0, .ref a0, .int 0])), (qd, .inl (cD, 1, .inr (.inr (.inr (.inl (fun _ => 0)))))), (qo, .inl (cL, 1, .inr (.inl (vp_updL (fun _ => 0) ((0 : Int32).toNatClampNeg) 0))))] := hD
  have hK : va_K (dC, dI) vwCl [(cM, .object "Haltingale$Machine"), (cT, .object "Haltingale$Tag"), (cL, .long), (cD, .double), (cL, .long)] s := hK
  refine W.widen (k := 31) (n := 4324) (Nat.le_of_ble_eq_true rfl) (Nat.le_of_ble_eq_true rfl) ?_
  obtain rfl : r_2 = 0 := hw
  refine lv_istore (lv' := [(6, .int 0), (5, .int 0), (4, .ref qd), (3, .ref qo), (2, .ref m0), (1, .ref x0), (0, .ref b)]) hx hb dL_law_709 hl (by decide) rfl (fun ls hl => ?_)
  refine lv_aload_n hx hb dL_law_711 rfl (lv_at hl 4 rfl) ?_
  refine lv_aload_n hx hb dL_law_712 rfl (lv_at hl 6 rfl) ?_
  refine lv_iload hx hb dL_law_713 (lv_at hl 1 rfl) ?_
  refine lv_iconst (v := 1) hx hb dL_law_715 (by decide) ?_
  refine lv_iadd hx hb dL_law_716 ?_
  refine lv_topi (fun x_3 ex_3 => ?_)
  obtain rfl : x_3 = 1 := ex_3.trans (by decide)
  refine va_sld hx hb hX hbl hbA hS (by unfold vp_in; decide) dL_law_717 ?_
  have hPc := hP.sub (ws' := [(m0, .inr (12, [.int 0, .ref l1, .ref l2, .int 0, .int 0, .int 0, .long 0])), (l1, .inr (1, [.int 0, .ref a0, .int 0]))]) [2, 3] rfl
  have hDc := hD.sub (ws' := [(m0, .inr (12, [.int 0, .ref l1, .ref l2, .int 0, .int 0, .int 0, .long 0])), (l1, .inr (1, [.int 0, .ref a0, .int 0]))]) [2, 3] (by decide) rfl
  have hKc := hK.sub (tys' := []) [] rfl
  have hFc := va_free (wc := [(m0, .inr (12, [.int 0, .ref l1, .ref l2, .int 0, .int 0, .int 0, .long 0])), (l1, .inr (1, [.int 0, .ref a0, .int 0]))]) hD hS hA [2, 3] rfl
  have hZc := ((hZ.kept hS.2.1).narrow hFc)
  refine va_calli (va_runV (As := [.int (xs ((1 : Int32).toNatClampNeg))]) (rest := []) ⟨hx, hb, hml, hown, hts⟩ (c_X10_doubt_ok l hnt dC dI a0 m0 l1 l2 ((xs ((1 : Int32).toNatClampNeg))) H.size (by first | assumption | decide)) (cwV 1 hts (goodIn_of _ (by decide +kernel)) rfl rfl rfl (by decide +kernel) ⟨Nat.le_of_ble_eq_true rfl, Nat.le_of_ble_eq_true rfl⟩) ⟨fun a U g mk q => by obtain ⟨q0, q1, qP, qK, qD, qZ⟩ := q; exact ⟨q0, q1, qP, va_K.moved (u := U) (U := U.calling g mk a) (Vm.Alike.refl U.vm) qK, qD, qZ.call⟩, va_recv hKc hPc (ci := 12) (q0 := 0) rfl rfl, fun U hU hW => ⟨rfl, by rw [hU], by rw [hU]; exact hPc, va_K.moved hW.alike hKc, hDc.weaken (fun _ _ _ _ => trivial), by rw [hU]; exact hZc.warm hW⟩⟩ rfl rfl hl.1 rfl (lv_room (Nat.le_of_ble_eq_true rfl)) dL_law_718 ⟨Nat.le_of_ble_eq_true rfl, Nat.le_of_ble_eq_true rfl⟩) hS (fun q _ h => hFc q h) hFc (fun r_4 u t H1 locs ht hvm hw hB hz1 hk1 hS => ?_)
  obtain ⟨hP1, hK1, hD1⟩ := hB
  rw [ht] at hP1
  have hK1 := va_K.moved hvm.symm hK1
  obtain ⟨hP, hD⟩ := va_join (wr := [(qm, .inl (cM, 12, .inr (.inr (.inr (.inr (fun _ => none)))))), (qt, .inl (cT, 4, .inr (.inr (.inr (.inr (fun _ => none)))))), (l2, .inr (1, [.int 0, .ref a0, .int 0])), (qd, .inl (cD, 1, .inr (.inr (.inr (.inl (fun _ => 0)))))), (qo, .inl (cL, 1, .inr (.inl (vp_updL (fun _ => 0) ((0 : Int32).toNatClampNeg) 0))))]) (w1 := [(m0, .inr (12, [.int 0, .ref l1, .ref l2, .int 0, .int 0, .int 0, .long 0]))]) hP hD [2, 3] [0, 1, 4, 5, 6] rfl rfl (by decide) (by decide) hk1 hFc hP1 hD1
  have hK := (hK.sub (tys' := [(cM, .object "Haltingale$Machine"), (cT, .object "Haltingale$Tag"), (cL, .long), (cD, .double), (cL, .long)]) [0, 1, 2, 3, 4] rfl).app hK1
  generalize H1 = H at hP hS ⊢
  have hP : va_P (dC, dI) vwCl [(qm, .inl (cM, 12, .inr (.inr (.inr (.inr (fun _ => none)))))), (qt, .inl (cT, 4, .inr (.inr (.inr (.inr (fun _ => none)))))), (l2, .inr (1, [.int 0, .ref a0, .int 0])), (qd, .inl (cD, 1, .inr (.inr (.inr (.inl (fun _ => 0)))))), (qo, .inl (cL, 1, .inr (.inl (vp_updL (fun _ => 0) ((0 : Int32).toNatClampNeg) 0)))), (m0, .inr (12, [.int 0, .ref l1, .ref l2, .int 0, .int 0, .int 0, .long 0]))] H := hP
  have hD : va_D A [(qm, .inl (cM, 12, .inr (.inr (.inr (.inr (fun _ => none)))))), (qt, .inl (cT, 4, .inr (.inr (.inr (.inr (fun _ => none)))))), (l2, .inr (1, [.int 0, .ref a0, .int 0])), (qd, .inl (cD, 1, .inr (.inr (.inr (.inl (fun _ => 0)))))), (qo, .inl (cL, 1, .inr (.inl (vp_updL (fun _ => 0) ((0 : Int32).toNatClampNeg) 0)))), (m0, .inr (12, [.int 0, .ref l1, .ref l2, .int 0, .int 0, .int 0, .long 0]))] := hD
  have hK : va_K (dC, dI) vwCl [(cM, .object "Haltingale$Machine"), (cT, .object "Haltingale$Tag"), (cL, .long), (cD, .double), (cL, .long)] s := hK
  refine W.widen (k := 32) (n := 4328) (Nat.le_of_ble_eq_true rfl) (Nat.le_of_ble_eq_true rfl) ?_
  obtain rfl : r_4 = 0 := hw
  refine lv_istore (lv' := [(7, .int 0), (6, .int 0), (5, .int 0), (4, .ref qd), (3, .ref qo), (2, .ref m0), (1, .ref x0), (0, .ref b)]) hx hb dL_law_721 hl (by decide) rfl (fun ls hl => ?_)
  refine lv_aload_n hx hb dL_law_723 rfl (lv_at hl 5 rfl) ?_
  have hPc := hP.sub (ws' := [(m0, .inr (12, [.int 0, .ref l1, .ref l2, .int 0, .int 0, .int 0, .long 0]))]) [5] rfl
  have hDc := hD.sub (ws' := [(m0, .inr (12, [.int 0, .ref l1, .ref l2, .int 0, .int 0, .int 0, .long 0]))]) [5] (by decide) rfl
  have hKc := hK.sub (tys' := []) [] rfl
  have hFc := va_free (wc := [(m0, .inr (12, [.int 0, .ref l1, .ref l2, .int 0, .int 0, .int 0, .long 0]))]) hD hS hA [5] rfl
  have hZc := ((hZ.kept hS.2.1).narrow hFc)
  refine va_calli (va_runV (As := []) (rest := []) ⟨hx, hb, hml, hown, hts⟩ (c_X10_thrown l hnt dC dI a0 m0 l1 l2 0 H.size ) (cwV 0 hts (goodIn_of _ (by decide +kernel)) rfl rfl rfl (by decide +kernel) ⟨Nat.le_of_ble_eq_true rfl, Nat.le_of_ble_eq_true rfl⟩) ⟨fun a U g mk q => by obtain ⟨q0, q1, qP, qK, qD, qZ⟩ := q; exact ⟨q0, q1, qP, va_K.moved (u := U) (U := U.calling g mk a) (Vm.Alike.refl U.vm) qK, qD, qZ.call⟩, va_recv hKc hPc (ci := 12) (q0 := 0) rfl rfl, fun U hU hW => ⟨rfl, by rw [hU], by rw [hU]; exact hPc, va_K.moved hW.alike hKc, hDc.weaken (fun _ _ _ _ => trivial), by rw [hU]; exact hZc.warm hW⟩⟩ rfl rfl hl.1 rfl (lv_room (Nat.le_of_ble_eq_true rfl)) dL_law_724 ⟨Nat.le_of_ble_eq_true rfl, Nat.le_of_ble_eq_true rfl⟩) hS (fun q _ h => hFc q h) hFc (fun r_5 u t H1 locs ht hvm hw hB hz1 hk1 hS => ?_)
  obtain ⟨hP1, hK1, hD1⟩ := hB
  rw [ht] at hP1
  have hK1 := va_K.moved hvm.symm hK1
  obtain ⟨hP, hD⟩ := va_join (wr := [(qm, .inl (cM, 12, .inr (.inr (.inr (.inr (fun _ => none)))))), (qt, .inl (cT, 4, .inr (.inr (.inr (.inr (fun _ => none)))))), (l2, .inr (1, [.int 0, .ref a0, .int 0])), (qd, .inl (cD, 1, .inr (.inr (.inr (.inl (fun _ => 0)))))), (qo, .inl (cL, 1, .inr (.inl (vp_updL (fun _ => 0) ((0 : Int32).toNatClampNeg) 0))))]) (w1 := []) hP hD [5] [0, 1, 2, 3, 4] rfl rfl (by decide) (by decide) hk1 hFc hP1 hD1
  have hK := (hK.sub (tys' := [(cM, .object "Haltingale$Machine"), (cT, .object "Haltingale$Tag"), (cL, .long), (cD, .double), (cL, .long)]) [0, 1, 2, 3, 4] rfl).app hK1
  generalize H1 = H at hP hS ⊢
  have hP : va_P (dC, dI) vwCl [(qm, .inl (cM, 12, .inr (.inr (.inr (.inr (fun _ => none)))))), (qt, .inl (cT, 4, .inr (.inr (.inr (.inr (fun _ => none)))))), (l2, .inr (1, [.int 0, .ref a0, .int 0])), (qd, .inl (cD, 1, .inr (.inr (.inr (.inl (fun _ => 0)))))), (qo, .inl (cL, 1, .inr (.inl (vp_updL (fun _ => 0) ((0 : Int32).toNatClampNeg) 0))))] H := hP
  have hD : va_D A [(qm, .inl (cM, 12, .inr (.inr (.inr (.inr (fun _ => none)))))), (qt, .inl (cT, 4, .inr (.inr (.inr (.inr (fun _ => none)))))), (l2, .inr (1, [.int 0, .ref a0, .int 0])), (qd, .inl (cD, 1, .inr (.inr (.inr (.inl (fun _ => 0)))))), (qo, .inl (cL, 1, .inr (.inl (vp_updL (fun _ => 0) ((0 : Int32).toNatClampNeg) 0))))] := hD
  have hK : va_K (dC, dI) vwCl [(cM, .object "Haltingale$Machine"), (cT, .object "Haltingale$Tag"), (cL, .long), (cD, .double), (cL, .long)] s := hK
  refine W.widen (k := 32) (n := 4328) (Nat.le_of_ble_eq_true rfl) (Nat.le_of_ble_eq_true rfl) ?_
  obtain rfl : r_5 = 0 := hw
  refine lv_iload hx hb dL_law_727 (lv_at hl 1 rfl) ?_
  refine lv_icmp_eq (tgt := 734) hx hb dL_law_729 (by decide) (fun c_6 => ?_) (fun c_6 => ?_)
  rotate_left
  · (first | exact absurd c_6 (by decide) | exact absurd (by decide) c_6)
  refine lv_iload hx hb dL_law_734 (lv_at hl 1 rfl) ?_
  refine lv_if_ne (tgt := 751) hx hb dL_law_736 (by decide) (fun c_7 => ?_) (fun c_7 => ?_)
  · (first | exact absurd c_7 (by decide) | exact absurd (by decide) c_7)
  refine lv_aload_n hx hb dL_law_739 rfl (lv_at hl 4 rfl) ?_
  refine lv_iconst (v := 0) hx hb dL_law_740 (by decide) ?_
  refine va_lald hx hb hK hP 4 2 rfl rfl (by unfold vp_in; decide) dL_law_741 ?_
  refine lv_topl (fun y_8 ey_8 => ?_)
  obtain rfl : y_8 = 0 := ey_8.trans (by decide +kernel)
  refine lv_iload hx hb dL_law_742 (lv_at hl 0 rfl) ?_
  refine lv_i2l (v := 0) hx hb dL_law_744 (by decide) ?_
  refine W.lcmp hx hb dL_law_745 ?_
  refine lv_topi (fun x_9 ex_9 => ?_)
  obtain rfl : x_9 = 0 := ex_9.trans (by decide +kernel)
  refine lv_if_eq (tgt := 751) hx hb dL_law_746 (by decide) (fun c_10 => ?_) (fun c_10 => ?_)
  rotate_left
  · (first | exact absurd c_10 (by decide) | exact absurd (by decide) c_10)
  refine lv_goto (tgt := 1806) hx hb dL_law_751 (by decide) ?_
  refine lv_iinc (v := 7) (lv' := [(5, .int 7), (7, .int 0), (6, .int 0), (4, .ref qd), (3, .ref qo), (2, .ref m0), (1, .ref x0), (0, .ref b)]) hx hb dL_law_1806 hl (k := 2) rfl (by decide) (by decide) rfl (fun ls hl => ?_)
  refine lv_goto (tgt := 28) hx hb dL_law_1809 (by decide) ?_
  refine lv_iload hx hb dL_law_28 (lv_at hl 0 rfl) ?_
  refine lv_aload_n hx hb dL_law_30 rfl (lv_at hl 7 rfl) ?_
  refine va_slen hx hb hX hbl hbA hS dL_law_31 ?_
  refine lv_topi (fun x_11 ex_11 => ?_)
  obtain rfl : x_11 = 7 := ex_11.trans (by decide)
  refine lv_bipush (v := 7) hx hb dL_law_32 (by decide) ?_
  refine lv_isub hx hb dL_law_34 ?_
  refine lv_topi (fun x_12 ex_12 => ?_)
  obtain rfl : x_12 = 0 := ex_12.trans (by decide)
  refine lv_icmp_gt (tgt := 1812) hx hb dL_law_35 (by decide) (fun c_13 => ?_) (fun c_13 => ?_)
  rotate_left
  · (first | exact absurd c_13 (by decide) | exact absurd (by decide) c_13)
  refine lv_iconst (v := 1) hx hb dL_law_1812 (by decide) ?_
  refine va_forget (fun q hq => hA2 _ (hS.2.2 q hq)) ?_
  refine W.widen (k := room_1.cells) (n := room_1.slots) (Nat.le_of_ble_eq_true rfl) (Nat.le_of_ble_eq_true rfl) ?_
  exact lw_ret0 hx hb hr hlocks dL_law_1813

set_option maxHeartbeats 4000000 in
set_option maxRecDepth 100000 in
/-- the law, case 15 -/
theorem law_15_no {p : Program} {l : Launch} (hnt : l.stackTraces = false) {e : Env} {s : State} {m : MethodId} {below : List Frame} {meth : Method} {c : Code} {dC : Nat → ClassId} {dI : Nat → Nat → Nat} {a0 b : Nat} {xs : Nat → Int32} (C0 : lw_At p s m meth c b 7 xs) {A : Nat → Prop} (hA : ∀ q : Nat, s.heap.size ≤ q → A q) (hA2 : ∀ q : Nat, A q → s.heap.size ≤ q) (hZ : zB a0 A s s.heap) {x0 : Nat} {qm : Nat} {qt : Nat} {qw : Nat} {qc : Nat} {qb : Nat} {qg : Nat} {m0 : Nat} {l1 : Nat} {l2 : Nat} {qo : Nat} {qd : Nat} {cM : ClassId} {cT : ClassId} {cL : ClassId} {cD : ClassId} {H : Heap} {locs : List Loc} (hK : va_K (dC, dI) vwCl [(cM, .object "Haltingale$Machine"), (cT, .object "Haltingale$Tag"), (cL, .long), (cD, .double)] s) (hP : va_P (dC, dI) vwCl [(x0, .inr (9, [.ref qm, .ref qt, .ref qw, .ref qc, .ref qb, .ref qg, .int 0, .int 0, .int 0, .int 0, .int 0])), (qm, .inl (cM, 12, .inr (.inr (.inr (.inr (fun _ => none)))))), (qt, .inl (cT, 4, .inr (.inr (.inr (.inr (fun _ => none)))))), (m0, .inr (12, [.int 0, .ref l1, .ref l2, .int 0, .int 0, .int 0, .long 0])), (l1, .inr (1, [.int 0, .ref a0, .int 0])), (l2, .inr (1, [.int 0, .ref a0, .int 0])), (qo, .inl (cL, 1, .inr (.inl (fun _ => 0)))), (qd, .inl (cD, 1, .inr (.inr (.inr (.inl (fun _ => 0))))))] H) (hD : va_D A [(x0, .inr (9, [.ref qm, .ref qt, .ref qw, .ref qc, .ref qb, .ref qg, .int 0, .int 0, .int 0, .int 0, .int 0])), (qm, .inl (cM, 12, .inr (.inr (.inr (.inr (fun _ => none)))))), (qt, .inl (cT, 4, .inr (.inr (.inr (.inr (fun _ => none)))))), (m0, .inr (12, [.int 0, .ref l1, .ref l2, .int 0, .int 0, .int 0, .long 0])), (l1, .inr (1, [.int 0, .ref a0, .int 0])), (l2, .inr (1, [.int 0, .ref a0, .int 0])), (qo, .inl (cL, 1, .inr (.inl (fun _ => 0)))), (qd, .inl (cD, 1, .inr (.inr (.inr (.inl (fun _ => 0))))))]) (hS : va_S A s.heap H locs) {ls : Array Slot} (hl : lv_has ls 10 [(5, .int 0), (4, .ref qd), (3, .ref qo), (2, .ref m0), (1, .ref x0), (0, .ref b)]) (hp : zw (xs ((1 : Int32).toNatClampNeg)) 0 1 = 0) : W p l e room_1 s m #[Value.ref b] below meth c H locs 31 4324 (lw_Z below #[Value.ref b] s) (F0 m 1379 ls []) := by
  obtain ⟨hx, hb, hr, hml, hown, hts0, hX, hbl, hlocks, hgv⟩ := C0
  have hts : ∀ w ∈ zs_law, w.before #[Value.ref b] s = true := fun w h => hts0 w (zs_law_in w h)
  have hbA : ¬ A b := fun h => absurd (hA2 b h) (Nat.not_le.mpr hbl)
  refine lv_aload_n hx hb dL_law_1379 rfl (lv_at hl 4 rfl) ?_
  refine lv_aload_n hx hb dL_law_1380 rfl (lv_at hl 5 rfl) ?_
  refine lv_iload hx hb dL_law_1381 (lv_at hl 0 rfl) ?_
  refine lv_iconst (v := 1) hx hb dL_law_1383 (by decide) ?_
  refine lv_iadd hx hb dL_law_1384 ?_
  refine lv_topi (fun x_1 ex_1 => ?_)
  obtain rfl : x_1 = 1 := ex_1.trans (by decide)
  refine va_sld hx hb hX hbl hbA hS (by unfold vp_in; decide) dL_law_1385 ?_
  refine lv_aload_n hx hb dL_law_1386 rfl (lv_at hl 2 rfl) ?_
  have hPc := hP.sub (ws' := [(x0, .inr (9, [.ref qm, .ref qt, .ref qw, .ref qc, .ref qb, .ref qg, .int 0, .int 0, .int 0, .int 0, .int 0])), (qo, .inl (cL, 1, .inr (.inl (fun _ => 0))))]) [0, 6] rfl
  have hDc := hD.sub (ws' := [(x0, .inr (9, [.ref qm, .ref qt, .ref qw, .ref qc, .ref qb, .ref qg, .int 0, .int 0, .int 0, .int 0, .int 0])), (qo, .inl (cL, 1, .inr (.inl (fun _ => 0))))]) [0, 6] (by decide) rfl
  have hKc := hK.sub (tys' := [(cL, .long)]) [2] rfl
  have hFc := va_free (wc := [(x0, .inr (9, [.ref qm, .ref qt, .ref qw, .ref qc, .ref qb, .ref qg, .int 0, .int 0, .int 0, .int 0, .int 0])), (qo, .inl (cL, 1, .inr (.inl (fun _ => 0))))]) hD hS hA [0, 6] rfl
  have hZc := ((hZ.kept hS.2.1).narrow hFc)
  refine va_calli (vx_runSW (As := [.ref x0, .int (xs ((1 : Int32).toNatClampNeg)), .ref qo]) (rest := []) ⟨hx, hb, hml, hown, hts⟩ (c_L_champion_no l hnt dC dI a0 x0 qm qt qw qc qb qg qo cL ((xs ((1 : Int32).toNatClampNeg))) H.size (by first | assumption | decide)) (vx_cwSW 3 hts (goodIn_of _ (by decide +kernel)) rfl rfl rfl (by decide +kernel) ⟨Nat.le_of_ble_eq_true rfl, Nat.le_of_ble_eq_true rfl⟩) ⟨fun a U g mk q => by obtain ⟨q0, q1, qP, qK, qD, qZ⟩ := q; exact ⟨q0, q1, qP, va_K.moved (u := U) (U := U.calling g mk a) (Vm.Alike.refl U.vm) qK, qD, qZ.call⟩, fun U hU hW => ⟨rfl, by rw [hU], by rw [hU]; exact hPc, va_K.moved hW.alike hKc, hDc.weaken (fun _ _ _ _ => trivial), by rw [hU]; exact hZc.warm hW⟩⟩ rfl rfl hl.1 rfl (lv_room (Nat.le_of_ble_eq_true rfl)) dL_law_1387 ⟨Nat.le_of_ble_eq_true rfl, Nat.le_of_ble_eq_true rfl⟩) hS (fun q _ h => hFc q h) hFc (fun r_2 u t H1 locs ht hvm hw hB hz1 hk1 hS => ?_)
  obtain ⟨hP1, hK1, hD1⟩ := hB
  rw [ht] at hP1
  have hK1 := va_K.moved hvm.symm hK1
  obtain ⟨hP, hD⟩ := va_join (wr := [(qm, .inl (cM, 12, .inr (.inr (.inr (.inr (fun _ => none)))))), (qt, .inl (cT, 4, .inr (.inr (.inr (.inr (fun _ => none)))))), (m0, .inr (12, [.int 0, .ref l1, .ref l2, .int 0, .int 0, .int 0, .long 0])), (l1, .inr (1, [.int 0, .ref a0, .int 0])), (l2, .inr (1, [.int 0, .ref a0, .int 0])), (qd, .inl (cD, 1, .inr (.inr (.inr (.inl (fun _ => 0))))))]) (w1 := []) hP hD [0, 6] [1, 2, 3, 4, 5, 7] rfl rfl (by decide) (by decide) hk1 hFc hP1 hD1
  have hK := (hK.sub (tys' := [(cM, .object "Haltingale$Machine"), (cT, .object "Haltingale$Tag"), (cL, .long), (cD, .double)]) [0, 1, 2, 3] rfl).app hK1
  generalize H1 = H at hP hS ⊢
  have hP : va_P (dC, dI) vwCl [(qm, .inl (cM, 12, .inr (.inr (.inr (.inr (fun _ => none)))))), (qt, .inl (cT, 4, .inr (.inr (.inr (.inr (fun _ => none)))))), (m0, .inr (12, [.int 0, .ref l1, .ref l2, .int 0, .int 0, .int 0, .long 0])), (l1, .inr (1, [.int 0, .ref a0, .int 0])), (l2, .inr (1, [.int 0, .ref a0, .int 0])), (qd, .inl (cD, 1, .inr (.inr (.inr (.inl (fun _ => 0))))))] H := hP
  have hD : va_D A [(qm, .inl (cM, 12, .inr (.inr (.inr (.inr (fun _ => none)))))), (qt, .inl (cT, 4, .inr (.inr (.inr (.inr (fun _ => none)))))), (m0, .inr (12, [.int 0, .ref l1, .ref l2, .int 0, .int 0, .int 0, .long 0])), (l1, .inr (1, [.int 0, .ref a0, .int 0])), (l2, .inr (1, [.int 0, .ref a0, .int 0])), (qd, .inl (cD, 1, .inr (.inr (.inr (.inl (fun _ => 0))))))] := hD
  have hK : va_K (dC, dI) vwCl [(cM, .object "Haltingale$Machine"), (cT, .object "Haltingale$Tag"), (cL, .long), (cD, .double)] s := hK
  refine W.widen (k := 32) (n := 4330) (Nat.le_of_ble_eq_true rfl) (Nat.le_of_ble_eq_true rfl) ?_
  obtain rfl : r_2 = 1 := hw
  refine lv_istore (lv' := [(6, .int 1), (5, .int 0), (4, .ref qd), (3, .ref qo), (2, .ref m0), (1, .ref x0), (0, .ref b)]) hx hb dL_law_1390 hl (by decide) rfl (fun ls hl => ?_)
  refine lv_aload_n hx hb dL_law_1392 rfl (lv_at hl 4 rfl) ?_
  refine lv_aload_n hx hb dL_law_1393 rfl (lv_at hl 6 rfl) ?_
  refine lv_iload hx hb dL_law_1394 (lv_at hl 1 rfl) ?_
  refine lv_iconst (v := 1) hx hb dL_law_1396 (by decide) ?_
  refine lv_iadd hx hb dL_law_1397 ?_
  refine lv_topi (fun x_3 ex_3 => ?_)
  obtain rfl : x_3 = 1 := ex_3.trans (by decide)
  refine va_sld hx hb hX hbl hbA hS (by unfold vp_in; decide) dL_law_1398 ?_
  have hPc := hP.sub (ws' := [(m0, .inr (12, [.int 0, .ref l1, .ref l2, .int 0, .int 0, .int 0, .long 0]))]) [2] rfl
  have hDc := hD.sub (ws' := [(m0, .inr (12, [.int 0, .ref l1, .ref l2, .int 0, .int 0, .int 0, .long 0]))]) [2] (by decide) rfl
  have hKc := hK.sub (tys' := []) [] rfl
  have hFc := va_free (wc := [(m0, .inr (12, [.int 0, .ref l1, .ref l2, .int 0, .int 0, .int 0, .long 0]))]) hD hS hA [2] rfl
  have hZc := ((hZ.kept hS.2.1).narrow hFc)
  refine va_calli (va_runV (As := [.int (xs ((1 : Int32).toNatClampNeg))]) (rest := []) ⟨hx, hb, hml, hown, hts⟩ (c_X10_champion_no l hnt dC dI a0 m0 l1 l2 ((xs ((1 : Int32).toNatClampNeg))) H.size (by first | assumption | decide)) (cwV 1 hts (goodIn_of _ (by decide +kernel)) rfl rfl rfl (by decide +kernel) ⟨Nat.le_of_ble_eq_true rfl, Nat.le_of_ble_eq_true rfl⟩) ⟨fun a U g mk q => by obtain ⟨q0, q1, qP, qK, qD, qZ⟩ := q; exact ⟨q0, q1, qP, va_K.moved (u := U) (U := U.calling g mk a) (Vm.Alike.refl U.vm) qK, qD, qZ.call⟩, va_recv hKc hPc (ci := 12) (q0 := 0) rfl rfl, fun U hU hW => ⟨rfl, by rw [hU], by rw [hU]; exact hPc, va_K.moved hW.alike hKc, hDc.weaken (fun _ _ _ _ => trivial), by rw [hU]; exact hZc.warm hW⟩⟩ rfl rfl hl.1 rfl (lv_room (Nat.le_of_ble_eq_true rfl)) dL_law_1399 ⟨Nat.le_of_ble_eq_true rfl, Nat.le_of_ble_eq_true rfl⟩) hS (fun q _ h => hFc q h) hFc (fun r_4 u t H1 locs ht hvm hw hB hz1 hk1 hS => ?_)
  obtain ⟨hP1, hK1, hD1⟩ := hB
  rw [ht] at hP1
  have hK1 := va_K.moved hvm.symm hK1
  obtain ⟨hP, hD⟩ := va_join (wr := [(qm, .inl (cM, 12, .inr (.inr (.inr (.inr (fun _ => none)))))), (qt, .inl (cT, 4, .inr (.inr (.inr (.inr (fun _ => none)))))), (l1, .inr (1, [.int 0, .ref a0, .int 0])), (l2, .inr (1, [.int 0, .ref a0, .int 0])), (qd, .inl (cD, 1, .inr (.inr (.inr (.inl (fun _ => 0))))))]) (w1 := [(m0, .inr (12, [.int 1, .ref l1, .ref l2, .int 0, .int 0, .int 0, .long 0]))]) hP hD [2] [0, 1, 3, 4, 5] rfl rfl (by decide) (by decide) hk1 hFc hP1 hD1
  have hK := (hK.sub (tys' := [(cM, .object "Haltingale$Machine"), (cT, .object "Haltingale$Tag"), (cL, .long), (cD, .double)]) [0, 1, 2, 3] rfl).app hK1
  generalize H1 = H at hP hS ⊢
  have hP : va_P (dC, dI) vwCl [(qm, .inl (cM, 12, .inr (.inr (.inr (.inr (fun _ => none)))))), (qt, .inl (cT, 4, .inr (.inr (.inr (.inr (fun _ => none)))))), (l1, .inr (1, [.int 0, .ref a0, .int 0])), (l2, .inr (1, [.int 0, .ref a0, .int 0])), (qd, .inl (cD, 1, .inr (.inr (.inr (.inl (fun _ => 0)))))), (m0, .inr (12, [.int 1, .ref l1, .ref l2, .int 0, .int 0, .int 0, .long 0]))] H := hP
  have hD : va_D A [(qm, .inl (cM, 12, .inr (.inr (.inr (.inr (fun _ => none)))))), (qt, .inl (cT, 4, .inr (.inr (.inr (.inr (fun _ => none)))))), (l1, .inr (1, [.int 0, .ref a0, .int 0])), (l2, .inr (1, [.int 0, .ref a0, .int 0])), (qd, .inl (cD, 1, .inr (.inr (.inr (.inl (fun _ => 0)))))), (m0, .inr (12, [.int 1, .ref l1, .ref l2, .int 0, .int 0, .int 0, .long 0]))] := hD
  have hK : va_K (dC, dI) vwCl [(cM, .object "Haltingale$Machine"), (cT, .object "Haltingale$Tag"), (cL, .long), (cD, .double)] s := hK
  refine W.widen (k := 32) (n := 4330) (Nat.le_of_ble_eq_true rfl) (Nat.le_of_ble_eq_true rfl) ?_
  obtain rfl : r_4 = 0 := hw
  refine lv_istore (lv' := [(7, .int 0), (6, .int 1), (5, .int 0), (4, .ref qd), (3, .ref qo), (2, .ref m0), (1, .ref x0), (0, .ref b)]) hx hb dL_law_1402 hl (by decide) rfl (fun ls hl => ?_)
  refine lv_aload_n hx hb dL_law_1404 rfl (lv_at hl 5 rfl) ?_
  have hPc := hP.sub (ws' := [(m0, .inr (12, [.int 1, .ref l1, .ref l2, .int 0, .int 0, .int 0, .long 0]))]) [5] rfl
  have hDc := hD.sub (ws' := [(m0, .inr (12, [.int 1, .ref l1, .ref l2, .int 0, .int 0, .int 0, .long 0]))]) [5] (by decide) rfl
  have hKc := hK.sub (tys' := []) [] rfl
  have hFc := va_free (wc := [(m0, .inr (12, [.int 1, .ref l1, .ref l2, .int 0, .int 0, .int 0, .long 0]))]) hD hS hA [5] rfl
  have hZc := ((hZ.kept hS.2.1).narrow hFc)
  refine va_calli (va_runV (As := []) (rest := []) ⟨hx, hb, hml, hown, hts⟩ (c_X10_thrown l hnt dC dI a0 m0 l1 l2 1 H.size ) (cwV 0 hts (goodIn_of _ (by decide +kernel)) rfl rfl rfl (by decide +kernel) ⟨Nat.le_of_ble_eq_true rfl, Nat.le_of_ble_eq_true rfl⟩) ⟨fun a U g mk q => by obtain ⟨q0, q1, qP, qK, qD, qZ⟩ := q; exact ⟨q0, q1, qP, va_K.moved (u := U) (U := U.calling g mk a) (Vm.Alike.refl U.vm) qK, qD, qZ.call⟩, va_recv hKc hPc (ci := 12) (q0 := 0) rfl rfl, fun U hU hW => ⟨rfl, by rw [hU], by rw [hU]; exact hPc, va_K.moved hW.alike hKc, hDc.weaken (fun _ _ _ _ => trivial), by rw [hU]; exact hZc.warm hW⟩⟩ rfl rfl hl.1 rfl (lv_room (Nat.le_of_ble_eq_true rfl)) dL_law_1405 ⟨Nat.le_of_ble_eq_true rfl, Nat.le_of_ble_eq_true rfl⟩) hS (fun q _ h => hFc q h) hFc (fun r_5 u t H1 locs ht hvm hw hB hz1 hk1 hS => ?_)
  obtain ⟨hP1, hK1, hD1⟩ := hB
  rw [ht] at hP1
  have hK1 := va_K.moved hvm.symm hK1
  obtain ⟨hP, hD⟩ := va_join (wr := [(qm, .inl (cM, 12, .inr (.inr (.inr (.inr (fun _ => none)))))), (qt, .inl (cT, 4, .inr (.inr (.inr (.inr (fun _ => none)))))), (l1, .inr (1, [.int 0, .ref a0, .int 0])), (l2, .inr (1, [.int 0, .ref a0, .int 0])), (qd, .inl (cD, 1, .inr (.inr (.inr (.inl (fun _ => 0))))))]) (w1 := []) hP hD [5] [0, 1, 2, 3, 4] rfl rfl (by decide) (by decide) hk1 hFc hP1 hD1
  have hK := (hK.sub (tys' := [(cM, .object "Haltingale$Machine"), (cT, .object "Haltingale$Tag"), (cL, .long), (cD, .double)]) [0, 1, 2, 3] rfl).app hK1
  generalize H1 = H at hP hS ⊢
  have hP : va_P (dC, dI) vwCl [(qm, .inl (cM, 12, .inr (.inr (.inr (.inr (fun _ => none)))))), (qt, .inl (cT, 4, .inr (.inr (.inr (.inr (fun _ => none)))))), (l1, .inr (1, [.int 0, .ref a0, .int 0])), (l2, .inr (1, [.int 0, .ref a0, .int 0])), (qd, .inl (cD, 1, .inr (.inr (.inr (.inl (fun _ => 0))))))] H := hP
  have hD : va_D A [(qm, .inl (cM, 12, .inr (.inr (.inr (.inr (fun _ => none)))))), (qt, .inl (cT, 4, .inr (.inr (.inr (.inr (fun _ => none)))))), (l1, .inr (1, [.int 0, .ref a0, .int 0])), (l2, .inr (1, [.int 0, .ref a0, .int 0])), (qd, .inl (cD, 1, .inr (.inr (.inr (.inl (fun _ => 0))))))] := hD
  have hK : va_K (dC, dI) vwCl [(cM, .object "Haltingale$Machine"), (cT, .object "Haltingale$Tag"), (cL, .long), (cD, .double)] s := hK
  refine W.widen (k := 32) (n := 4330) (Nat.le_of_ble_eq_true rfl) (Nat.le_of_ble_eq_true rfl) ?_
  obtain rfl : r_5 = 1 := hw
  refine lv_iload hx hb dL_law_1408 (lv_at hl 1 rfl) ?_
  refine lv_icmp_eq (tgt := 1415) hx hb dL_law_1410 (by decide) (fun c_6 => ?_) (fun c_6 => ?_)
  rotate_left
  · (first | exact absurd c_6 (by decide) | exact absurd (by decide) c_6)
  refine lv_iload hx hb dL_law_1415 (lv_at hl 1 rfl) ?_
  refine lv_if_ne (tgt := 1432) hx hb dL_law_1417 (by decide) (fun c_7 => ?_) (fun c_7 => ?_)
  rotate_left
  · (first | exact absurd c_7 (by decide) | exact absurd (by decide) c_7)
  refine lv_goto (tgt := 1806) hx hb dL_law_1432 (by decide) ?_
  refine lv_iinc (v := 7) (lv' := [(5, .int 7), (7, .int 0), (6, .int 1), (4, .ref qd), (3, .ref qo), (2, .ref m0), (1, .ref x0), (0, .ref b)]) hx hb dL_law_1806 hl (k := 2) rfl (by decide) (by decide) rfl (fun ls hl => ?_)
  refine lv_goto (tgt := 28) hx hb dL_law_1809 (by decide) ?_
  refine lv_iload hx hb dL_law_28 (lv_at hl 0 rfl) ?_
  refine lv_aload_n hx hb dL_law_30 rfl (lv_at hl 7 rfl) ?_
  refine va_slen hx hb hX hbl hbA hS dL_law_31 ?_
  refine lv_topi (fun x_8 ex_8 => ?_)
  obtain rfl : x_8 = 7 := ex_8.trans (by decide)
  refine lv_bipush (v := 7) hx hb dL_law_32 (by decide) ?_
  refine lv_isub hx hb dL_law_34 ?_
  refine lv_topi (fun x_9 ex_9 => ?_)
  obtain rfl : x_9 = 0 := ex_9.trans (by decide)
  refine lv_icmp_gt (tgt := 1812) hx hb dL_law_35 (by decide) (fun c_10 => ?_) (fun c_10 => ?_)
  rotate_left
  · (first | exact absurd c_10 (by decide) | exact absurd (by decide) c_10)
  refine lv_iconst (v := 1) hx hb dL_law_1812 (by decide) ?_
  refine va_forget (fun q hq => hA2 _ (hS.2.2 q hq)) ?_
  refine W.widen (k := room_1.cells) (n := room_1.slots) (Nat.le_of_ble_eq_true rfl) (Nat.le_of_ble_eq_true rfl) ?_
  exact lw_ret0 hx hb hr hlocks dL_law_1813

set_option maxHeartbeats 4000000 in
set_option maxRecDepth 100000 in
/-- the law, case 15 -/
theorem law_15_ok {p : Program} {l : Launch} (hnt : l.stackTraces = false) {e : Env} {s : State} {m : MethodId} {below : List Frame} {meth : Method} {c : Code} {dC : Nat → ClassId} {dI : Nat → Nat → Nat} {a0 b : Nat} {xs : Nat → Int32} (C0 : lw_At p s m meth c b 7 xs) {A : Nat → Prop} (hA : ∀ q : Nat, s.heap.size ≤ q → A q) (hA2 : ∀ q : Nat, A q → s.heap.size ≤ q) (hZ : zB a0 A s s.heap) {x0 : Nat} {qm : Nat} {qt : Nat} {qw : Nat} {qc : Nat} {qb : Nat} {qg : Nat} {m0 : Nat} {l1 : Nat} {l2 : Nat} {qo : Nat} {qd : Nat} {cM : ClassId} {cT : ClassId} {cL : ClassId} {cD : ClassId} {H : Heap} {locs : List Loc} (hK : va_K (dC, dI) vwCl [(cM, .object "Haltingale$Machine"), (cT, .object "Haltingale$Tag"), (cL, .long), (cD, .double)] s) (hP : va_P (dC, dI) vwCl [(x0, .inr (9, [.ref qm, .ref qt, .ref qw, .ref qc, .ref qb, .ref qg, .int 0, .int 0, .int 0, .int 0, .int 0])), (qm, .inl (cM, 12, .inr (.inr (.inr (.inr (fun _ => none)))))), (qt, .inl (cT, 4, .inr (.inr (.inr (.inr (fun _ => none)))))), (m0, .inr (12, [.int 0, .ref l1, .ref l2, .int 0, .int 0, .int 0, .long 0])), (l1, .inr (1, [.int 0, .ref a0, .int 0])), (l2, .inr (1, [.int 0, .ref a0, .int 0])), (qo, .inl (cL, 1, .inr (.inl (fun _ => 0)))), (qd, .inl (cD, 1, .inr (.inr (.inr (.inl (fun _ => 0))))))] H) (hD : va_D A [(x0, .inr (9, [.ref qm, .ref qt, .ref qw, .ref qc, .ref qb, .ref qg, .int 0, .int 0, .int 0, .int 0, .int 0])), (qm, .inl (cM, 12, .inr (.inr (.inr (.inr (fun _ => none)))))), (qt, .inl (cT, 4, .inr (.inr (.inr (.inr (fun _ => none)))))), (m0, .inr (12, [.int 0, .ref l1, .ref l2, .int 0, .int 0, .int 0, .long 0])), (l1, .inr (1, [.int 0, .ref a0, .int 0])), (l2, .inr (1, [.int 0, .ref a0, .int 0])), (qo, .inl (cL, 1, .inr (.inl (fun _ => 0)))), (qd, .inl (cD, 1, .inr (.inr (.inr (.inl (fun _ => 0))))))]) (hS : va_S A s.heap H locs) {ls : Array Slot} (hl : lv_has ls 10 [(5, .int 0), (4, .ref qd), (3, .ref qo), (2, .ref m0), (1, .ref x0), (0, .ref b)]) (hp : zw (xs ((1 : Int32).toNatClampNeg)) 0 1 = 1) : W p l e room_1 s m #[Value.ref b] below meth c H locs 31 4324 (lw_Z below #[Value.ref b] s) (F0 m 1379 ls []) := by
  obtain ⟨hx, hb, hr, hml, hown, hts0, hX, hbl, hlocks, hgv⟩ := C0
  have hts : ∀ w ∈ zs_law, w.before #[Value.ref b] s = true := fun w h => hts0 w (zs_law_in w h)
  have hbA : ¬ A b := fun h => absurd (hA2 b h) (Nat.not_le.mpr hbl)
  refine lv_aload_n hx hb dL_law_1379 rfl (lv_at hl 4 rfl) ?_
  refine lv_aload_n hx hb dL_law_1380 rfl (lv_at hl 5 rfl) ?_
  refine lv_iload hx hb dL_law_1381 (lv_at hl 0 rfl) ?_
  refine lv_iconst (v := 1) hx hb dL_law_1383 (by decide) ?_
  refine lv_iadd hx hb dL_law_1384 ?_
  refine lv_topi (fun x_1 ex_1 => ?_)
  obtain rfl : x_1 = 1 := ex_1.trans (by decide)
  refine va_sld hx hb hX hbl hbA hS (by unfold vp_in; decide) dL_law_1385 ?_
  refine lv_aload_n hx hb dL_law_1386 rfl (lv_at hl 2 rfl) ?_
  have hPc := hP.sub (ws' := [(x0, .inr (9, [.ref qm, .ref qt, .ref qw, .ref qc, .ref qb, .ref qg, .int 0, .int 0, .int 0, .int 0, .int 0])), (qo, .inl (cL, 1, .inr (.inl (fun _ => 0))))]) [0, 6] rfl
  have hDc := hD.sub (ws' := [(x0, .inr (9, [.ref qm, .ref qt, .ref qw, .ref qc, .ref qb, .ref qg, .int 0, .int 0, .int 0, .int 0, .int 0])), (qo, .inl (cL, 1, .inr (.inl (fun _ => 0))))]) [0, 6] (by decide) rfl
  have hKc := hK.sub (tys' := [(cL, .long)]) [2] rfl
  have hFc := va_free (wc := [(x0, .inr (9, [.ref qm, .ref qt, .ref qw, .ref qc, .ref qb, .ref qg, .int 0, .int 0, .int 0, .int 0, .int 0])), (qo, .inl (cL, 1, .inr (.inl (fun _ => 0))))]) hD hS hA [0, 6] rfl
  have hZc := ((hZ.kept hS.2.1).narrow hFc)
  refine va_calli (vx_runSW (As := [.ref x0, .int (xs ((1 : Int32).toNatClampNeg)), .ref qo]) (rest := []) ⟨hx, hb, hml, hown, hts⟩ (c_L_champion_ok l hnt dC dI a0 x0 qm qt qw qc qb qg qo cL ((xs ((1 : Int32).toNatClampNeg))) H.size (by first | assumption | decide)) (vx_cwSW 3 hts (goodIn_of _ (by decide +kernel)) rfl rfl rfl (by decide +kernel) ⟨Nat.le_of_ble_eq_true rfl, Nat.le_of_ble_eq_true rfl⟩) ⟨fun a U g mk q => by obtain ⟨q0, q1, qP, qK, qD, qZ⟩ := q; exact ⟨q0, q1, qP, va_K.moved (u := U) (U := U.calling g mk a) (Vm.Alike.refl U.vm) qK, qD, qZ.call⟩, fun U hU hW => ⟨rfl, by rw [hU], by rw [hU]; exact hPc, va_K.moved hW.alike hKc, hDc.weaken (fun _ _ _ _ => trivial), by rw [hU]; exact hZc.warm hW⟩⟩ rfl rfl hl.1 rfl (lv_room (Nat.le_of_ble_eq_true rfl)) dL_law_1387 ⟨Nat.le_of_ble_eq_true rfl, Nat.le_of_ble_eq_true rfl⟩) hS (fun q _ h => hFc q h) hFc (fun r_2 u t H1 locs ht hvm hw hB hz1 hk1 hS => ?_)
  obtain ⟨hP1, hK1, hD1⟩ := hB
  rw [ht] at hP1
  have hK1 := va_K.moved hvm.symm hK1
  obtain ⟨hP, hD⟩ := va_join (wr := [(qm, .inl (cM, 12, .inr (.inr (.inr (.inr (fun _ => none)))))), (qt, .inl (cT, 4, .inr (.inr (.inr (.inr (fun _ => none)))))), (m0, .inr (12, [.int 0, .ref l1, .ref l2, .int 0, .int 0, .int 0, .long 0])), (l1, .inr (1, [.int 0, .ref a0, .int 0])), (l2, .inr (1, [.int 0, .ref a0, .int 0])), (qd, .inl (cD, 1, .inr (.inr (.inr (.inl (fun _ => 0))))))]) (w1 := [(qo, .inl (cL, 1, .inr (.inl (vp_updL (fun _ => 0) ((0 : Int32).toNatClampNeg) (-1)))))]) hP hD [0, 6] [1, 2, 3, 4, 5, 7] rfl rfl (by decide) (by decide) hk1 hFc hP1 hD1
  have hK := (hK.sub (tys' := [(cM, .object "Haltingale$Machine"), (cT, .object "Haltingale$Tag"), (cL, .long), (cD, .double)]) [0, 1, 2, 3] rfl).app hK1
  generalize H1 = H at hP hS ⊢
  have hP : va_P (dC, dI) vwCl [(qm, .inl (cM, 12, .inr (.inr (.inr (.inr (fun _ => none)))))), (qt, .inl (cT, 4, .inr (.inr (.inr (.inr (fun _ => none)))))), (m0, .inr (12, [.int 0, .ref l1, .ref l2, .int 0, .int 0, .int 0, .long 0])), (l1, .inr (1, [.int 0, .ref a0, .int 0])), (l2, .inr (1, [.int 0, .ref a0, .int 0])), (qd, .inl (cD, 1, .inr (.inr (.inr (.inl (fun _ => 0)))))), (qo, .inl (cL, 1, .inr (.inl (vp_updL (fun _ => 0) ((0 : Int32).toNatClampNeg) (-1)))))] H := hP
  have hD : va_D A [(qm, .inl (cM, 12, .inr (.inr (.inr (.inr (fun _ => none)))))), (qt, .inl (cT, 4, .inr (.inr (.inr (.inr (fun _ => none)))))), (m0, .inr (12, [.int 0, .ref l1, .ref l2, .int 0, .int 0, .int 0, .long 0])), (l1, .inr (1, [.int 0, .ref a0, .int 0])), (l2, .inr (1, [.int 0, .ref a0, .int 0])), (qd, .inl (cD, 1, .inr (.inr (.inr (.inl (fun _ => 0)))))), (qo, .inl (cL, 1, .inr (.inl (vp_updL (fun _ => 0) ((0 : Int32).toNatClampNeg) (-1)))))] := hD
  have hK : va_K (dC, dI) vwCl [(cM, .object "Haltingale$Machine"), (cT, .object "Haltingale$Tag"), (cL, .long), (cD, .double), (cL, .long)] s := hK
  refine W.widen (k := 31) (n := 4324) (Nat.le_of_ble_eq_true rfl) (Nat.le_of_ble_eq_true rfl) ?_
  obtain rfl : r_2 = 0 := hw
  refine lv_istore (lv' := [(6, .int 0), (5, .int 0), (4, .ref qd), (3, .ref qo), (2, .ref m0), (1, .ref x0), (0, .ref b)]) hx hb dL_law_1390 hl (by decide) rfl (fun ls hl => ?_)
  refine lv_aload_n hx hb dL_law_1392 rfl (lv_at hl 4 rfl) ?_
  refine lv_aload_n hx hb dL_law_1393 rfl (lv_at hl 6 rfl) ?_
  refine lv_iload hx hb dL_law_1394 (lv_at hl 1 rfl) ?_
  refine lv_iconst (v := 1) hx hb dL_law_1396 (by decide) ?_
  refine lv_iadd hx hb dL_law_1397 ?_
  refine lv_topi (fun x_3 ex_3 => ?_)
  obtain rfl : x_3 = 1 := ex_3.trans (by decide)
  refine va_sld hx hb hX hbl hbA hS (by unfold vp_in; decide) dL_law_1398 ?_
  have hPc := hP.sub (ws' := [(m0, .inr (12, [.int 0, .ref l1, .ref l2, .int 0, .int 0, .int 0, .long 0])), (l1, .inr (1, [.int 0, .ref a0, .int 0]))]) [2, 3] rfl
  have hDc := hD.sub (ws' := [(m0, .inr (12, [.int 0, .ref l1, .ref l2, .int 0, .int 0, .int 0, .long 0])), (l1, .inr (1, [.int 0, .ref a0, .int 0]))]) [2, 3] (by decide) rfl
  have hKc := hK.sub (tys' := []) [] rfl
  have hFc := va_free (wc := [(m0, .inr (12, [.int 0, .ref l1, .ref l2, .int 0, .int 0, .int 0, .long 0])), (l1, .inr (1, [.int 0, .ref a0, .int 0]))]) hD hS hA [2, 3] rfl
  have hZc := ((hZ.kept hS.2.1).narrow hFc)
  refine va_calli (va_runV (As := [.int (xs ((1 : Int32).toNatClampNeg))]) (rest := []) ⟨hx, hb, hml, hown, hts⟩ (c_X10_champion_ok l hnt dC dI a0 m0 l1 l2 ((xs ((1 : Int32).toNatClampNeg))) H.size (by first | assumption | decide)) (cwV 1 hts (goodIn_of _ (by decide +kernel)) rfl rfl rfl (by decide +kernel) ⟨Nat.le_of_ble_eq_true rfl, Nat.le_of_ble_eq_true rfl⟩) ⟨fun a U g mk q => by obtain ⟨q0, q1, qP, qK, qD, qZ⟩ := q; exact ⟨q0, q1, qP, va_K.moved (u := U) (U := U.calling g mk a) (Vm.Alike.refl U.vm) qK, qD, qZ.call⟩, va_recv hKc hPc (ci := 12) (q0 := 0) rfl rfl, fun U hU hW => ⟨rfl, by rw [hU], by rw [hU]; exact hPc, va_K.moved hW.alike hKc, hDc.weaken (fun _ _ _ _ => trivial), by rw [hU]; exact hZc.warm hW⟩⟩ rfl rfl hl.1 rfl (lv_room (Nat.le_of_ble_eq_true rfl)) dL_law_1399 ⟨Nat.le_of_ble_eq_true rfl, Nat.le_of_ble_eq_true rfl⟩) hS (fun q _ h => hFc q h) hFc (fun r_4 u t H1 locs ht hvm hw hB hz1 hk1 hS => ?_)
  obtain ⟨hP1, hK1, hD1⟩ := hB
  rw [ht] at hP1
  have hK1 := va_K.moved hvm.symm hK1
  obtain ⟨hP, hD⟩ := va_join (wr := [(qm, .inl (cM, 12, .inr (.inr (.inr (.inr (fun _ => none)))))), (qt, .inl (cT, 4, .inr (.inr (.inr (.inr (fun _ => none)))))), (l2, .inr (1, [.int 0, .ref a0, .int 0])), (qd, .inl (cD, 1, .inr (.inr (.inr (.inl (fun _ => 0)))))), (qo, .inl (cL, 1, .inr (.inl (vp_updL (fun _ => 0) ((0 : Int32).toNatClampNeg) (-1)))))]) (w1 := [(m0, .inr (12, [.int 0, .ref l1, .ref l2, .int 0, .int 0, .int 0, .long 0]))]) hP hD [2, 3] [0, 1, 4, 5, 6] rfl rfl (by decide) (by decide) hk1 hFc hP1 hD1
  have hK := (hK.sub (tys' := [(cM, .object "Haltingale$Machine"), (cT, .object "Haltingale$Tag"), (cL, .long), (cD, .double), (cL, .long)]) [0, 1, 2, 3, 4] rfl).app hK1
  generalize H1 = H at hP hS ⊢
  have hP : va_P (dC, dI) vwCl [(qm, .inl (cM, 12, .inr (.inr (.inr (.inr (fun _ => none)))))), (qt, .inl (cT, 4, .inr (.inr (.inr (.inr (fun _ => none)))))), (l2, .inr (1, [.int 0, .ref a0, .int 0])), (qd, .inl (cD, 1, .inr (.inr (.inr (.inl (fun _ => 0)))))), (qo, .inl (cL, 1, .inr (.inl (vp_updL (fun _ => 0) ((0 : Int32).toNatClampNeg) (-1))))), (m0, .inr (12, [.int 0, .ref l1, .ref l2, .int 0, .int 0, .int 0, .long 0]))] H := hP
  have hD : va_D A [(qm, .inl (cM, 12, .inr (.inr (.inr (.inr (fun _ => none)))))), (qt, .inl (cT, 4, .inr (.inr (.inr (.inr (fun _ => none)))))), (l2, .inr (1, [.int 0, .ref a0, .int 0])), (qd, .inl (cD, 1, .inr (.inr (.inr (.inl (fun _ => 0)))))), (qo, .inl (cL, 1, .inr (.inl (vp_updL (fun _ => 0) ((0 : Int32).toNatClampNeg) (-1))))), (m0, .inr (12, [.int 0, .ref l1, .ref l2, .int 0, .int 0, .int 0, .long 0]))] := hD
  have hK : va_K (dC, dI) vwCl [(cM, .object "Haltingale$Machine"), (cT, .object "Haltingale$Tag"), (cL, .long), (cD, .double), (cL, .long)] s := hK
  refine W.widen (k := 31) (n := 4324) (Nat.le_of_ble_eq_true rfl) (Nat.le_of_ble_eq_true rfl) ?_
  obtain rfl : r_4 = (-1) := hw
  refine lv_istore (lv' := [(7, .int (-1)), (6, .int 0), (5, .int 0), (4, .ref qd), (3, .ref qo), (2, .ref m0), (1, .ref x0), (0, .ref b)]) hx hb dL_law_1402 hl (by decide) rfl (fun ls hl => ?_)
  refine lv_aload_n hx hb dL_law_1404 rfl (lv_at hl 5 rfl) ?_
  have hPc := hP.sub (ws' := [(m0, .inr (12, [.int 0, .ref l1, .ref l2, .int 0, .int 0, .int 0, .long 0]))]) [5] rfl
  have hDc := hD.sub (ws' := [(m0, .inr (12, [.int 0, .ref l1, .ref l2, .int 0, .int 0, .int 0, .long 0]))]) [5] (by decide) rfl
  have hKc := hK.sub (tys' := []) [] rfl
  have hFc := va_free (wc := [(m0, .inr (12, [.int 0, .ref l1, .ref l2, .int 0, .int 0, .int 0, .long 0]))]) hD hS hA [5] rfl
  have hZc := ((hZ.kept hS.2.1).narrow hFc)
  refine va_calli (va_runV (As := []) (rest := []) ⟨hx, hb, hml, hown, hts⟩ (c_X10_thrown l hnt dC dI a0 m0 l1 l2 0 H.size ) (cwV 0 hts (goodIn_of _ (by decide +kernel)) rfl rfl rfl (by decide +kernel) ⟨Nat.le_of_ble_eq_true rfl, Nat.le_of_ble_eq_true rfl⟩) ⟨fun a U g mk q => by obtain ⟨q0, q1, qP, qK, qD, qZ⟩ := q; exact ⟨q0, q1, qP, va_K.moved (u := U) (U := U.calling g mk a) (Vm.Alike.refl U.vm) qK, qD, qZ.call⟩, va_recv hKc hPc (ci := 12) (q0 := 0) rfl rfl, fun U hU hW => ⟨rfl, by rw [hU], by rw [hU]; exact hPc, va_K.moved hW.alike hKc, hDc.weaken (fun _ _ _ _ => trivial), by rw [hU]; exact hZc.warm hW⟩⟩ rfl rfl hl.1 rfl (lv_room (Nat.le_of_ble_eq_true rfl)) dL_law_1405 ⟨Nat.le_of_ble_eq_true rfl, Nat.le_of_ble_eq_true rfl⟩) hS (fun q _ h => hFc q h) hFc (fun r_5 u t H1 locs ht hvm hw hB hz1 hk1 hS => ?_)
  obtain ⟨hP1, hK1, hD1⟩ := hB
  rw [ht] at hP1
  have hK1 := va_K.moved hvm.symm hK1
  obtain ⟨hP, hD⟩ := va_join (wr := [(qm, .inl (cM, 12, .inr (.inr (.inr (.inr (fun _ => none)))))), (qt, .inl (cT, 4, .inr (.inr (.inr (.inr (fun _ => none)))))), (l2, .inr (1, [.int 0, .ref a0, .int 0])), (qd, .inl (cD, 1, .inr (.inr (.inr (.inl (fun _ => 0)))))), (qo, .inl (cL, 1, .inr (.inl (vp_updL (fun _ => 0) ((0 : Int32).toNatClampNeg) (-1)))))]) (w1 := []) hP hD [5] [0, 1, 2, 3, 4] rfl rfl (by decide) (by decide) hk1 hFc hP1 hD1
  have hK := (hK.sub (tys' := [(cM, .object "Haltingale$Machine"), (cT, .object "Haltingale$Tag"), (cL, .long), (cD, .double), (cL, .long)]) [0, 1, 2, 3, 4] rfl).app hK1
  generalize H1 = H at hP hS ⊢
  have hP : va_P (dC, dI) vwCl [(qm, .inl (cM, 12, .inr (.inr (.inr (.inr (fun _ => none)))))), (qt, .inl (cT, 4, .inr (.inr (.inr (.inr (fun _ => none)))))), (l2, .inr (1, [.int 0, .ref a0, .int 0])), (qd, .inl (cD, 1, .inr (.inr (.inr (.inl (fun _ => 0)))))), (qo, .inl (cL, 1, .inr (.inl (vp_updL (fun _ => 0) ((0 : Int32).toNatClampNeg) (-1)))))] H := hP
  have hD : va_D A [(qm, .inl (cM, 12, .inr (.inr (.inr (.inr (fun _ => none)))))), (qt, .inl (cT, 4, .inr (.inr (.inr (.inr (fun _ => none)))))), (l2, .inr (1, [.int 0, .ref a0, .int 0])), (qd, .inl (cD, 1, .inr (.inr (.inr (.inl (fun _ => 0)))))), (qo, .inl (cL, 1, .inr (.inl (vp_updL (fun _ => 0) ((0 : Int32).toNatClampNeg) (-1)))))] := hD
  have hK : va_K (dC, dI) vwCl [(cM, .object "Haltingale$Machine"), (cT, .object "Haltingale$Tag"), (cL, .long), (cD, .double), (cL, .long)] s := hK
  refine W.widen (k := 31) (n := 4324) (Nat.le_of_ble_eq_true rfl) (Nat.le_of_ble_eq_true rfl) ?_
  obtain rfl : r_5 = 0 := hw
  refine lv_iload hx hb dL_law_1408 (lv_at hl 1 rfl) ?_
  refine lv_icmp_eq (tgt := 1415) hx hb dL_law_1410 (by decide) (fun c_6 => ?_) (fun c_6 => ?_)
  rotate_left
  · (first | exact absurd c_6 (by decide) | exact absurd (by decide) c_6)
  refine lv_iload hx hb dL_law_1415 (lv_at hl 1 rfl) ?_
  refine lv_if_ne (tgt := 1432) hx hb dL_law_1417 (by decide) (fun c_7 => ?_) (fun c_7 => ?_)
  · (first | exact absurd c_7 (by decide) | exact absurd (by decide) c_7)
  refine lv_aload_n hx hb dL_law_1420 rfl (lv_at hl 4 rfl) ?_
  refine lv_iconst (v := 0) hx hb dL_law_1421 (by decide) ?_
  refine va_lald hx hb hK hP 4 2 rfl rfl (by unfold vp_in; decide) dL_law_1422 ?_
  refine lv_topl (fun y_8 ey_8 => ?_)
  obtain rfl : y_8 = (-1) := ey_8.trans (by decide +kernel)
  refine lv_iload hx hb dL_law_1423 (lv_at hl 0 rfl) ?_
  refine lv_i2l (v := (-1)) hx hb dL_law_1425 (by decide) ?_
  refine W.lcmp hx hb dL_law_1426 ?_
  refine lv_topi (fun x_9 ex_9 => ?_)
  obtain rfl : x_9 = 0 := ex_9.trans (by decide +kernel)
  refine lv_if_eq (tgt := 1432) hx hb dL_law_1427 (by decide) (fun c_10 => ?_) (fun c_10 => ?_)
  rotate_left
  · (first | exact absurd c_10 (by decide) | exact absurd (by decide) c_10)
  refine lv_goto (tgt := 1806) hx hb dL_law_1432 (by decide) ?_
  refine lv_iinc (v := 7) (lv' := [(5, .int 7), (7, .int (-1)), (6, .int 0), (4, .ref qd), (3, .ref qo), (2, .ref m0), (1, .ref x0), (0, .ref b)]) hx hb dL_law_1806 hl (k := 2) rfl (by decide) (by decide) rfl (fun ls hl => ?_)
  refine lv_goto (tgt := 28) hx hb dL_law_1809 (by decide) ?_
  refine lv_iload hx hb dL_law_28 (lv_at hl 0 rfl) ?_
  refine lv_aload_n hx hb dL_law_30 rfl (lv_at hl 7 rfl) ?_
  refine va_slen hx hb hX hbl hbA hS dL_law_31 ?_
  refine lv_topi (fun x_11 ex_11 => ?_)
  obtain rfl : x_11 = 7 := ex_11.trans (by decide)
  refine lv_bipush (v := 7) hx hb dL_law_32 (by decide) ?_
  refine lv_isub hx hb dL_law_34 ?_
  refine lv_topi (fun x_12 ex_12 => ?_)
  obtain rfl : x_12 = 0 := ex_12.trans (by decide)
  refine lv_icmp_gt (tgt := 1812) hx hb dL_law_35 (by decide) (fun c_13 => ?_) (fun c_13 => ?_)
  rotate_left
  · (first | exact absurd c_13 (by decide) | exact absurd (by decide) c_13)
  refine lv_iconst (v := 1) hx hb dL_law_1812 (by decide) ?_
  refine va_forget (fun q hq => hA2 _ (hS.2.2 q hq)) ?_
  refine W.widen (k := room_1.cells) (n := room_1.slots) (Nat.le_of_ble_eq_true rfl) (Nat.le_of_ble_eq_true rfl) ?_
  exact lw_ret0 hx hb hr hlocks dL_law_1813

set_option maxHeartbeats 4000000 in
set_option maxRecDepth 100000 in
/-- the law, case 17 -/
theorem law_17_no {p : Program} {l : Launch} (hnt : l.stackTraces = false) {e : Env} {s : State} {m : MethodId} {below : List Frame} {meth : Method} {c : Code} {dC : Nat → ClassId} {dI : Nat → Nat → Nat} {a0 b : Nat} {xs : Nat → Int32} (C0 : lw_At p s m meth c b 7 xs) {A : Nat → Prop} (hA : ∀ q : Nat, s.heap.size ≤ q → A q) (hA2 : ∀ q : Nat, A q → s.heap.size ≤ q) (hZ : zB a0 A s s.heap) {x0 : Nat} {qm : Nat} {qt : Nat} {qw : Nat} {qc : Nat} {qb : Nat} {qg : Nat} {m0 : Nat} {l1 : Nat} {l2 : Nat} {qo : Nat} {qd : Nat} {cM : ClassId} {cT : ClassId} {cL : ClassId} {cD : ClassId} {H : Heap} {locs : List Loc} (hK : va_K (dC, dI) vwCl [(cM, .object "Haltingale$Machine"), (cT, .object "Haltingale$Tag"), (cL, .long), (cD, .double)] s) (hP : va_P (dC, dI) vwCl [(x0, .inr (9, [.ref qm, .ref qt, .ref qw, .ref qc, .ref qb, .ref qg, .int 0, .int 0, .int 0, .int 0, .int 0])), (qm, .inl (cM, 12, .inr (.inr (.inr (.inr (fun _ => none)))))), (qt, .inl (cT, 4, .inr (.inr (.inr (.inr (fun _ => none)))))), (m0, .inr (12, [.int 0, .ref l1, .ref l2, .int 0, .int 0, .int 0, .long 0])), (l1, .inr (1, [.int 0, .ref a0, .int 0])), (l2, .inr (1, [.int 0, .ref a0, .int 0])), (qo, .inl (cL, 1, .inr (.inl (fun _ => 0)))), (qd, .inl (cD, 1, .inr (.inr (.inr (.inl (fun _ => 0))))))] H) (hD : va_D A [(x0, .inr (9, [.ref qm, .ref qt, .ref qw, .ref qc, .ref qb, .ref qg, .int 0, .int 0, .int 0, .int 0, .int 0])), (qm, .inl (cM, 12, .inr (.inr (.inr (.inr (fun _ => none)))))), (qt, .inl (cT, 4, .inr (.inr (.inr (.inr (fun _ => none)))))), (m0, .inr (12, [.int 0, .ref l1, .ref l2, .int 0, .int 0, .int 0, .long 0])), (l1, .inr (1, [.int 0, .ref a0, .int 0])), (l2, .inr (1, [.int 0, .ref a0, .int 0])), (qo, .inl (cL, 1, .inr (.inl (fun _ => 0)))), (qd, .inl (cD, 1, .inr (.inr (.inr (.inl (fun _ => 0))))))]) (hS : va_S A s.heap H locs) {ls : Array Slot} (hl : lv_has ls 10 [(5, .int 0), (4, .ref qd), (3, .ref qo), (2, .ref m0), (1, .ref x0), (0, .ref b)]) (hp : zw (xs ((1 : Int32).toNatClampNeg)) 0 10 = 0) : W p l e room_1 s m #[Value.ref b] below meth c H locs 31 4324 (lw_Z below #[Value.ref b] s) (F0 m 1515 ls []) := by
  obtain ⟨hx, hb, hr, hml, hown, hts0, hX, hbl, hlocks, hgv⟩ := C0
  have hts : ∀ w ∈ zs_law, w.before #[Value.ref b] s = true := fun w h => hts0 w (zs_law_in w h)
  have hbA : ¬ A b := fun h => absurd (hA2 b h) (Nat.not_le.mpr hbl)
  refine lv_aload_n hx hb dL_law_1515 rfl (lv_at hl 4 rfl) ?_
  refine lv_aload_n hx hb dL_law_1516 rfl (lv_at hl 5 rfl) ?_
  refine lv_iload hx hb dL_law_1517 (lv_at hl 0 rfl) ?_
  refine lv_iconst (v := 1) hx hb dL_law_1519 (by decide) ?_
  refine lv_iadd hx hb dL_law_1520 ?_
  refine lv_topi (fun x_1 ex_1 => ?_)
  obtain rfl : x_1 = 1 := ex_1.trans (by decide)
  refine va_sld hx hb hX hbl hbA hS (by unfold vp_in; decide) dL_law_1521 ?_
  refine lv_aload_n hx hb dL_law_1522 rfl (lv_at hl 2 rfl) ?_
  have hPc := hP.sub (ws' := [(x0, .inr (9, [.ref qm, .ref qt, .ref qw, .ref qc, .ref qb, .ref qg, .int 0, .int 0, .int 0, .int 0, .int 0])), (qo, .inl (cL, 1, .inr (.inl (fun _ => 0))))]) [0, 6] rfl
  have hDc := hD.sub (ws' := [(x0, .inr (9, [.ref qm, .ref qt, .ref qw, .ref qc, .ref qb, .ref qg, .int 0, .int 0, .int 0, .int 0, .int 0])), (qo, .inl (cL, 1, .inr (.inl (fun _ => 0))))]) [0, 6] (by decide) rfl
  have hKc := hK.sub (tys' := [(cL, .long)]) [2] rfl
  have hFc := va_free (wc := [(x0, .inr (9, [.ref qm, .ref qt, .ref qw, .ref qc, .ref qb, .ref qg, .int 0, .int 0, .int 0, .int 0, .int 0])), (qo, .inl (cL, 1, .inr (.inl (fun _ => 0))))]) hD hS hA [0, 6] rfl
  have hZc := ((hZ.kept hS.2.1).narrow hFc)
  refine va_calli (vx_runSW (As := [.ref x0, .int (xs ((1 : Int32).toNatClampNeg)), .ref qo]) (rest := []) ⟨hx, hb, hml, hown, hts⟩ (c_L_many_no l hnt dC dI a0 x0 qm qt qw qc qb qg qo cL ((xs ((1 : Int32).toNatClampNeg))) H.size (by first | assumption | decide)) (vx_cwSW 3 hts (goodIn_of _ (by decide +kernel)) rfl rfl rfl (by decide +kernel) ⟨Nat.le_of_ble_eq_true rfl, Nat.le_of_ble_eq_true rfl⟩) ⟨fun a U g mk q => by obtain ⟨q0, q1, qP, qK, qD, qZ⟩ := q; exact ⟨q0, q1, qP, va_K.moved (u := U) (U := U.calling g mk a) (Vm.Alike.refl U.vm) qK, qD, qZ.call⟩, fun U hU hW => ⟨rfl, by rw [hU], by rw [hU]; exact hPc, va_K.moved hW.alike hKc, hDc.weaken (fun _ _ _ _ => trivial), by rw [hU]; exact hZc.warm hW⟩⟩ rfl rfl hl.1 rfl (lv_room (Nat.le_of_ble_eq_true rfl)) dL_law_1523 ⟨Nat.le_of_ble_eq_true rfl, Nat.le_of_ble_eq_true rfl⟩) hS (fun q _ h => hFc q h) hFc (fun r_2 u t H1 locs ht hvm hw hB hz1 hk1 hS => ?_)
  obtain ⟨hP1, hK1, hD1⟩ := hB
  rw [ht] at hP1
  have hK1 := va_K.moved hvm.symm hK1
  obtain ⟨hP, hD⟩ := va_join (wr := [(qm, .inl (cM, 12, .inr (.inr (.inr (.inr (fun _ => none)))))), (qt, .inl (cT, 4, .inr (.inr (.inr (.inr (fun _ => none)))))), (m0, .inr (12, [.int 0, .ref l1, .ref l2, .int 0, .int 0, .int 0, .long 0])), (l1, .inr (1, [.int 0, .ref a0, .int 0])), (l2, .inr (1, [.int 0, .ref a0, .int 0])), (qd, .inl (cD, 1, .inr (.inr (.inr (.inl (fun _ => 0))))))]) (w1 := []) hP hD [0, 6] [1, 2, 3, 4, 5, 7] rfl rfl (by decide) (by decide) hk1 hFc hP1 hD1
  have hK := (hK.sub (tys' := [(cM, .object "Haltingale$Machine"), (cT, .object "Haltingale$Tag"), (cL, .long), (cD, .double)]) [0, 1, 2, 3] rfl).app hK1
  generalize H1 = H at hP hS ⊢
  have hP : va_P (dC, dI) vwCl [(qm, .inl (cM, 12, .inr (.inr (.inr (.inr (fun _ => none)))))), (qt, .inl (cT, 4, .inr (.inr (.inr (.inr (fun _ => none)))))), (m0, .inr (12, [.int 0, .ref l1, .ref l2, .int 0, .int 0, .int 0, .long 0])), (l1, .inr (1, [.int 0, .ref a0, .int 0])), (l2, .inr (1, [.int 0, .ref a0, .int 0])), (qd, .inl (cD, 1, .inr (.inr (.inr (.inl (fun _ => 0))))))] H := hP
  have hD : va_D A [(qm, .inl (cM, 12, .inr (.inr (.inr (.inr (fun _ => none)))))), (qt, .inl (cT, 4, .inr (.inr (.inr (.inr (fun _ => none)))))), (m0, .inr (12, [.int 0, .ref l1, .ref l2, .int 0, .int 0, .int 0, .long 0])), (l1, .inr (1, [.int 0, .ref a0, .int 0])), (l2, .inr (1, [.int 0, .ref a0, .int 0])), (qd, .inl (cD, 1, .inr (.inr (.inr (.inl (fun _ => 0))))))] := hD
  have hK : va_K (dC, dI) vwCl [(cM, .object "Haltingale$Machine"), (cT, .object "Haltingale$Tag"), (cL, .long), (cD, .double)] s := hK
  refine W.widen (k := 32) (n := 4330) (Nat.le_of_ble_eq_true rfl) (Nat.le_of_ble_eq_true rfl) ?_
  obtain rfl : r_2 = 1 := hw
  refine lv_istore (lv' := [(6, .int 1), (5, .int 0), (4, .ref qd), (3, .ref qo), (2, .ref m0), (1, .ref x0), (0, .ref b)]) hx hb dL_law_1526 hl (by decide) rfl (fun ls hl => ?_)
  refine lv_aload_n hx hb dL_law_1528 rfl (lv_at hl 4 rfl) ?_
  refine lv_aload_n hx hb dL_law_1529 rfl (lv_at hl 6 rfl) ?_
  refine lv_iload hx hb dL_law_1530 (lv_at hl 1 rfl) ?_
  refine lv_iconst (v := 1) hx hb dL_law_1532 (by decide) ?_
  refine lv_iadd hx hb dL_law_1533 ?_
  refine lv_topi (fun x_3 ex_3 => ?_)
  obtain rfl : x_3 = 1 := ex_3.trans (by decide)
  refine va_sld hx hb hX hbl hbA hS (by unfold vp_in; decide) dL_law_1534 ?_
  have hPc := hP.sub (ws' := [(m0, .inr (12, [.int 0, .ref l1, .ref l2, .int 0, .int 0, .int 0, .long 0]))]) [2] rfl
  have hDc := hD.sub (ws' := [(m0, .inr (12, [.int 0, .ref l1, .ref l2, .int 0, .int 0, .int 0, .long 0]))]) [2] (by decide) rfl
  have hKc := hK.sub (tys' := []) [] rfl
  have hFc := va_free (wc := [(m0, .inr (12, [.int 0, .ref l1, .ref l2, .int 0, .int 0, .int 0, .long 0]))]) hD hS hA [2] rfl
  have hZc := ((hZ.kept hS.2.1).narrow hFc)
  refine va_calli (va_runV (As := [.int (xs ((1 : Int32).toNatClampNeg))]) (rest := []) ⟨hx, hb, hml, hown, hts⟩ (c_X10_many_no l hnt dC dI a0 m0 l1 l2 ((xs ((1 : Int32).toNatClampNeg))) H.size (by first | assumption | decide)) (cwV 1 hts (goodIn_of _ (by decide +kernel)) rfl rfl rfl (by decide +kernel) ⟨Nat.le_of_ble_eq_true rfl, Nat.le_of_ble_eq_true rfl⟩) ⟨fun a U g mk q => by obtain ⟨q0, q1, qP, qK, qD, qZ⟩ := q; exact ⟨q0, q1, qP, va_K.moved (u := U) (U := U.calling g mk a) (Vm.Alike.refl U.vm) qK, qD, qZ.call⟩, va_recv hKc hPc (ci := 12) (q0 := 0) rfl rfl, fun U hU hW => ⟨rfl, by rw [hU], by rw [hU]; exact hPc, va_K.moved hW.alike hKc, hDc.weaken (fun _ _ _ _ => trivial), by rw [hU]; exact hZc.warm hW⟩⟩ rfl rfl hl.1 rfl (lv_room (Nat.le_of_ble_eq_true rfl)) dL_law_1535 ⟨Nat.le_of_ble_eq_true rfl, Nat.le_of_ble_eq_true rfl⟩) hS (fun q _ h => hFc q h) hFc (fun r_4 u t H1 locs ht hvm hw hB hz1 hk1 hS => ?_)
  obtain ⟨hP1, hK1, hD1⟩ := hB
  rw [ht] at hP1
  have hK1 := va_K.moved hvm.symm hK1
  obtain ⟨hP, hD⟩ := va_join (wr := [(qm, .inl (cM, 12, .inr (.inr (.inr (.inr (fun _ => none)))))), (qt, .inl (cT, 4, .inr (.inr (.inr (.inr (fun _ => none)))))), (l1, .inr (1, [.int 0, .ref a0, .int 0])), (l2, .inr (1, [.int 0, .ref a0, .int 0])), (qd, .inl (cD, 1, .inr (.inr (.inr (.inl (fun _ => 0))))))]) (w1 := [(m0, .inr (12, [.int 1, .ref l1, .ref l2, .int 0, .int 0, .int 0, .long 0]))]) hP hD [2] [0, 1, 3, 4, 5] rfl rfl (by decide) (by decide) hk1 hFc hP1 hD1
  have hK := (hK.sub (tys' := [(cM, .object "Haltingale$Machine"), (cT, .object "Haltingale$Tag"), (cL, .long), (cD, .double)]) [0, 1, 2, 3] rfl).app hK1
  generalize H1 = H at hP hS ⊢
  have hP : va_P (dC, dI) vwCl [(qm, .inl (cM, 12, .inr (.inr (.inr (.inr (fun _ => none)))))), (qt, .inl (cT, 4, .inr (.inr (.inr (.inr (fun _ => none)))))), (l1, .inr (1, [.int 0, .ref a0, .int 0])), (l2, .inr (1, [.int 0, .ref a0, .int 0])), (qd, .inl (cD, 1, .inr (.inr (.inr (.inl (fun _ => 0)))))), (m0, .inr (12, [.int 1, .ref l1, .ref l2, .int 0, .int 0, .int 0, .long 0]))] H := hP
  have hD : va_D A [(qm, .inl (cM, 12, .inr (.inr (.inr (.inr (fun _ => none)))))), (qt, .inl (cT, 4, .inr (.inr (.inr (.inr (fun _ => none)))))), (l1, .inr (1, [.int 0, .ref a0, .int 0])), (l2, .inr (1, [.int 0, .ref a0, .int 0])), (qd, .inl (cD, 1, .inr (.inr (.inr (.inl (fun _ => 0)))))), (m0, .inr (12, [.int 1, .ref l1, .ref l2, .int 0, .int 0, .int 0, .long 0]))] := hD
  have hK : va_K (dC, dI) vwCl [(cM, .object "Haltingale$Machine"), (cT, .object "Haltingale$Tag"), (cL, .long), (cD, .double)] s := hK
  refine W.widen (k := 32) (n := 4330) (Nat.le_of_ble_eq_true rfl) (Nat.le_of_ble_eq_true rfl) ?_
  obtain rfl : r_4 = 0 := hw
  refine lv_istore (lv' := [(7, .int 0), (6, .int 1), (5, .int 0), (4, .ref qd), (3, .ref qo), (2, .ref m0), (1, .ref x0), (0, .ref b)]) hx hb dL_law_1538 hl (by decide) rfl (fun ls hl => ?_)
  refine lv_aload_n hx hb dL_law_1540 rfl (lv_at hl 5 rfl) ?_
  have hPc := hP.sub (ws' := [(m0, .inr (12, [.int 1, .ref l1, .ref l2, .int 0, .int 0, .int 0, .long 0]))]) [5] rfl
  have hDc := hD.sub (ws' := [(m0, .inr (12, [.int 1, .ref l1, .ref l2, .int 0, .int 0, .int 0, .long 0]))]) [5] (by decide) rfl
  have hKc := hK.sub (tys' := []) [] rfl
  have hFc := va_free (wc := [(m0, .inr (12, [.int 1, .ref l1, .ref l2, .int 0, .int 0, .int 0, .long 0]))]) hD hS hA [5] rfl
  have hZc := ((hZ.kept hS.2.1).narrow hFc)
  refine va_calli (va_runV (As := []) (rest := []) ⟨hx, hb, hml, hown, hts⟩ (c_X10_thrown l hnt dC dI a0 m0 l1 l2 1 H.size ) (cwV 0 hts (goodIn_of _ (by decide +kernel)) rfl rfl rfl (by decide +kernel) ⟨Nat.le_of_ble_eq_true rfl, Nat.le_of_ble_eq_true rfl⟩) ⟨fun a U g mk q => by obtain ⟨q0, q1, qP, qK, qD, qZ⟩ := q; exact ⟨q0, q1, qP, va_K.moved (u := U) (U := U.calling g mk a) (Vm.Alike.refl U.vm) qK, qD, qZ.call⟩, va_recv hKc hPc (ci := 12) (q0 := 0) rfl rfl, fun U hU hW => ⟨rfl, by rw [hU], by rw [hU]; exact hPc, va_K.moved hW.alike hKc, hDc.weaken (fun _ _ _ _ => trivial), by rw [hU]; exact hZc.warm hW⟩⟩ rfl rfl hl.1 rfl (lv_room (Nat.le_of_ble_eq_true rfl)) dL_law_1541 ⟨Nat.le_of_ble_eq_true rfl, Nat.le_of_ble_eq_true rfl⟩) hS (fun q _ h => hFc q h) hFc (fun r_5 u t H1 locs ht hvm hw hB hz1 hk1 hS => ?_)
  obtain ⟨hP1, hK1, hD1⟩ := hB
  rw [ht] at hP1
  have hK1 := va_K.moved hvm.symm hK1
  obtain ⟨hP, hD⟩ := va_join (wr := [(qm, .inl (cM, 12, .inr (.inr (.inr (.inr (fun _ => none)))))), (qt, .inl (cT, 4, .inr (.inr (.inr (.inr (fun _ => none)))))), (l1, .inr (1, [.int 0, .ref a0, .int 0])), (l2, .inr (1, [.int 0, .ref a0, .int 0])), (qd, .inl (cD, 1, .inr (.inr (.inr (.inl (fun _ => 0))))))]) (w1 := []) hP hD [5] [0, 1, 2, 3, 4] rfl rfl (by decide) (by decide) hk1 hFc hP1 hD1
  have hK := (hK.sub (tys' := [(cM, .object "Haltingale$Machine"), (cT, .object "Haltingale$Tag"), (cL, .long), (cD, .double)]) [0, 1, 2, 3] rfl).app hK1
  generalize H1 = H at hP hS ⊢
  have hP : va_P (dC, dI) vwCl [(qm, .inl (cM, 12, .inr (.inr (.inr (.inr (fun _ => none)))))), (qt, .inl (cT, 4, .inr (.inr (.inr (.inr (fun _ => none)))))), (l1, .inr (1, [.int 0, .ref a0, .int 0])), (l2, .inr (1, [.int 0, .ref a0, .int 0])), (qd, .inl (cD, 1, .inr (.inr (.inr (.inl (fun _ => 0))))))] H := hP
  have hD : va_D A [(qm, .inl (cM, 12, .inr (.inr (.inr (.inr (fun _ => none)))))), (qt, .inl (cT, 4, .inr (.inr (.inr (.inr (fun _ => none)))))), (l1, .inr (1, [.int 0, .ref a0, .int 0])), (l2, .inr (1, [.int 0, .ref a0, .int 0])), (qd, .inl (cD, 1, .inr (.inr (.inr (.inl (fun _ => 0))))))] := hD
  have hK : va_K (dC, dI) vwCl [(cM, .object "Haltingale$Machine"), (cT, .object "Haltingale$Tag"), (cL, .long), (cD, .double)] s := hK
  refine W.widen (k := 32) (n := 4330) (Nat.le_of_ble_eq_true rfl) (Nat.le_of_ble_eq_true rfl) ?_
  obtain rfl : r_5 = 1 := hw
  refine lv_iload hx hb dL_law_1544 (lv_at hl 1 rfl) ?_
  refine lv_icmp_eq (tgt := 1551) hx hb dL_law_1546 (by decide) (fun c_6 => ?_) (fun c_6 => ?_)
  rotate_left
  · (first | exact absurd c_6 (by decide) | exact absurd (by decide) c_6)
  refine lv_iload hx hb dL_law_1551 (lv_at hl 1 rfl) ?_
  refine lv_if_ne (tgt := 1568) hx hb dL_law_1553 (by decide) (fun c_7 => ?_) (fun c_7 => ?_)
  rotate_left
  · (first | exact absurd c_7 (by decide) | exact absurd (by decide) c_7)
  refine lv_goto (tgt := 1806) hx hb dL_law_1568 (by decide) ?_
  refine lv_iinc (v := 7) (lv' := [(5, .int 7), (7, .int 0), (6, .int 1), (4, .ref qd), (3, .ref qo), (2, .ref m0), (1, .ref x0), (0, .ref b)]) hx hb dL_law_1806 hl (k := 2) rfl (by decide) (by decide) rfl (fun ls hl => ?_)
  refine lv_goto (tgt := 28) hx hb dL_law_1809 (by decide) ?_
  refine lv_iload hx hb dL_law_28 (lv_at hl 0 rfl) ?_
  refine lv_aload_n hx hb dL_law_30 rfl (lv_at hl 7 rfl) ?_
  refine va_slen hx hb hX hbl hbA hS dL_law_31 ?_
  refine lv_topi (fun x_8 ex_8 => ?_)
  obtain rfl : x_8 = 7 := ex_8.trans (by decide)
  refine lv_bipush (v := 7) hx hb dL_law_32 (by decide) ?_
  refine lv_isub hx hb dL_law_34 ?_
  refine lv_topi (fun x_9 ex_9 => ?_)
  obtain rfl : x_9 = 0 := ex_9.trans (by decide)
  refine lv_icmp_gt (tgt := 1812) hx hb dL_law_35 (by decide) (fun c_10 => ?_) (fun c_10 => ?_)
  rotate_left
  · (first | exact absurd c_10 (by decide) | exact absurd (by decide) c_10)
  refine lv_iconst (v := 1) hx hb dL_law_1812 (by decide) ?_
  refine va_forget (fun q hq => hA2 _ (hS.2.2 q hq)) ?_
  refine W.widen (k := room_1.cells) (n := room_1.slots) (Nat.le_of_ble_eq_true rfl) (Nat.le_of_ble_eq_true rfl) ?_
  exact lw_ret0 hx hb hr hlocks dL_law_1813

set_option maxHeartbeats 4000000 in
set_option maxRecDepth 100000 in
/-- the law, case 17 -/
theorem law_17_0 {p : Program} {l : Launch} (hnt : l.stackTraces = false) {e : Env} {s : State} {m : MethodId} {below : List Frame} {meth : Method} {c : Code} {dC : Nat → ClassId} {dI : Nat → Nat → Nat} {a0 b : Nat} {xs : Nat → Int32} (C0 : lw_At p s m meth c b 7 xs) {A : Nat → Prop} (hA : ∀ q : Nat, s.heap.size ≤ q → A q) (hA2 : ∀ q : Nat, A q → s.heap.size ≤ q) (hZ : zB a0 A s s.heap) {x0 : Nat} {qm : Nat} {qt : Nat} {qw : Nat} {qc : Nat} {qb : Nat} {qg : Nat} {m0 : Nat} {l1 : Nat} {l2 : Nat} {qo : Nat} {qd : Nat} {cM : ClassId} {cT : ClassId} {cL : ClassId} {cD : ClassId} {H : Heap} {locs : List Loc} (hK : va_K (dC, dI) vwCl [(cM, .object "Haltingale$Machine"), (cT, .object "Haltingale$Tag"), (cL, .long), (cD, .double)] s) (hP : va_P (dC, dI) vwCl [(x0, .inr (9, [.ref qm, .ref qt, .ref qw, .ref qc, .ref qb, .ref qg, .int 0, .int 0, .int 0, .int 0, .int 0])), (qm, .inl (cM, 12, .inr (.inr (.inr (.inr (fun _ => none)))))), (qt, .inl (cT, 4, .inr (.inr (.inr (.inr (fun _ => none)))))), (m0, .inr (12, [.int 0, .ref l1, .ref l2, .int 0, .int 0, .int 0, .long 0])), (l1, .inr (1, [.int 0, .ref a0, .int 0])), (l2, .inr (1, [.int 0, .ref a0, .int 0])), (qo, .inl (cL, 1, .inr (.inl (fun _ => 0)))), (qd, .inl (cD, 1, .inr (.inr (.inr (.inl (fun _ => 0))))))] H) (hD : va_D A [(x0, .inr (9, [.ref qm, .ref qt, .ref qw, .ref qc, .ref qb, .ref qg, .int 0, .int 0, .int 0, .int 0, .int 0])), (qm, .inl (cM, 12, .inr (.inr (.inr (.inr (fun _ => none)))))), (qt, .inl (cT, 4, .inr (.inr (.inr (.inr (fun _ => none)))))), (m0, .inr (12, [.int 0, .ref l1, .ref l2, .int 0, .int 0, .int 0, .long 0])), (l1, .inr (1, [.int 0, .ref a0, .int 0])), (l2, .inr (1, [.int 0, .ref a0, .int 0])), (qo, .inl (cL, 1, .inr (.inl (fun _ => 0)))), (qd, .inl (cD, 1, .inr (.inr (.inr (.inl (fun _ => 0))))))]) (hS : va_S A s.heap H locs) {ls : Array Slot} (hl : lv_has ls 10 [(5, .int 0), (4, .ref qd), (3, .ref qo), (2, .ref m0), (1, .ref x0), (0, .ref b)]) (hp : xs ((1 : Int32).toNatClampNeg) = 0) : W p l e room_1 s m #[Value.ref b] below meth c H locs 31 4324 (lw_Z below #[Value.ref b] s) (F0 m 1515 ls []) := by
  obtain ⟨hx, hb, hr, hml, hown, hts0, hX, hbl, hlocks, hgv⟩ := C0
  have hts : ∀ w ∈ zs_law, w.before #[Value.ref b] s = true := fun w h => hts0 w (zs_law_in w h)
  have hbA : ¬ A b := fun h => absurd (hA2 b h) (Nat.not_le.mpr hbl)
  refine lv_aload_n hx hb dL_law_1515 rfl (lv_at hl 4 rfl) ?_
  refine lv_aload_n hx hb dL_law_1516 rfl (lv_at hl 5 rfl) ?_
  refine lv_iload hx hb dL_law_1517 (lv_at hl 0 rfl) ?_
  refine lv_iconst (v := 1) hx hb dL_law_1519 (by decide) ?_
  refine lv_iadd hx hb dL_law_1520 ?_
  refine lv_topi (fun x_1 ex_1 => ?_)
  obtain rfl : x_1 = 1 := ex_1.trans (by decide)
  refine va_sld hx hb hX hbl hbA hS (by unfold vp_in; decide) dL_law_1521 ?_
  refine lv_topi (fun x_2 ex_2 => ?_)
  obtain rfl : x_2 = 0 := ex_2.trans (hp)
  refine lv_aload_n hx hb dL_law_1522 rfl (lv_at hl 2 rfl) ?_
  have hPc := hP.sub (ws' := [(x0, .inr (9, [.ref qm, .ref qt, .ref qw, .ref qc, .ref qb, .ref qg, .int 0, .int 0, .int 0, .int 0, .int 0])), (qo, .inl (cL, 1, .inr (.inl (fun _ => 0))))]) [0, 6] rfl
  have hDc := hD.sub (ws' := [(x0, .inr (9, [.ref qm, .ref qt, .ref qw, .ref qc, .ref qb, .ref qg, .int 0, .int 0, .int 0, .int 0, .int 0])), (qo, .inl (cL, 1, .inr (.inl (fun _ => 0))))]) [0, 6] (by decide) rfl
  have hKc := hK.sub (tys' := [(cL, .long)]) [2] rfl
  have hFc := va_free (wc := [(x0, .inr (9, [.ref qm, .ref qt, .ref qw, .ref qc, .ref qb, .ref qg, .int 0, .int 0, .int 0, .int 0, .int 0])), (qo, .inl (cL, 1, .inr (.inl (fun _ => 0))))]) hD hS hA [0, 6] rfl
  have hZc := ((hZ.kept hS.2.1).narrow hFc)
  refine va_calli (vx_runSW (As := [.ref x0, .int 0, .ref qo]) (rest := []) ⟨hx, hb, hml, hown, hts⟩ (c_L_many_0 l hnt dC dI a0 x0 qm qt qw qc qb qg qo cL H.size ) (vx_cwSW 3 hts (goodIn_of _ (by decide +kernel)) rfl rfl rfl (by decide +kernel) ⟨Nat.le_of_ble_eq_true rfl, Nat.le_of_ble_eq_true rfl⟩) ⟨fun a U g mk q => by obtain ⟨q0, q1, qP, qK, qD, qZ⟩ := q; exact ⟨q0, q1, qP, va_K.moved (u := U) (U := U.calling g mk a) (Vm.Alike.refl U.vm) qK, qD, qZ.call⟩, fun U hU hW => ⟨rfl, by rw [hU], by rw [hU]; exact hPc, va_K.moved hW.alike hKc, hDc.weaken (fun _ _ _ _ => trivial), by rw [hU]; exact hZc.warm hW⟩⟩ rfl rfl hl.1 rfl (lv_room (Nat.le_of_ble_eq_true rfl)) dL_law_1523 ⟨Nat.le_of_ble_eq_true rfl, Nat.le_of_ble_eq_true rfl⟩) hS (fun q _ h => hFc q h) hFc (fun r_3 u t H1 locs ht hvm hw hB hz1 hk1 hS => ?_)
  obtain ⟨hP1, hK1, hD1⟩ := hB
  rw [ht] at hP1
  have hK1 := va_K.moved hvm.symm hK1
  obtain ⟨hP, hD⟩ := va_join (wr := [(qm, .inl (cM, 12, .inr (.inr (.inr (.inr (fun _ => none)))))), (qt, .inl (cT, 4, .inr (.inr (.inr (.inr (fun _ => none)))))), (m0, .inr (12, [.int 0, .ref l1, .ref l2, .int 0, .int 0, .int 0, .long 0])), (l1, .inr (1, [.int 0, .ref a0, .int 0])), (l2, .inr (1, [.int 0, .ref a0, .int 0])), (qd, .inl (cD, 1, .inr (.inr (.inr (.inl (fun _ => 0))))))]) (w1 := [(qo, .inl (cL, 1, .inr (.inl (vp_updL (fun _ => 0) ((0 : Int32).toNatClampNeg) 0))))]) hP hD [0, 6] [1, 2, 3, 4, 5, 7] rfl rfl (by decide) (by decide) hk1 hFc hP1 hD1
  have hK := (hK.sub (tys' := [(cM, .object "Haltingale$Machine"), (cT, .object "Haltingale$Tag"), (cL, .long), (cD, .double)]) [0, 1, 2, 3] rfl).app hK1
  generalize H1 = H at hP hS ⊢
  have hP : va_P (dC, dI) vwCl [(qm, .inl (cM, 12, .inr (.inr (.inr (.inr (fun _ => none)))))), (qt, .inl (cT, 4, .inr (.inr (.inr (.inr (fun _ => none)))))), (m0, .inr (12, [.int 0, .ref l1, .ref l2, .int 0, .int 0, .int 0, .long 0])), (l1, .inr (1, [.int 0, .ref a0, .int 0])), (l2, .inr (1, [.int 0, .ref a0, .int 0])), (qd, .inl (cD, 1, .inr (.inr (.inr (.inl (fun _ => 0)))))), (qo, .inl (cL, 1, .inr (.inl (vp_updL (fun _ => 0) ((0 : Int32).toNatClampNeg) 0))))] H := hP
  have hD : va_D A [(qm, .inl (cM, 12, .inr (.inr (.inr (.inr (fun _ => none)))))), (qt, .inl (cT, 4, .inr (.inr (.inr (.inr (fun _ => none)))))), (m0, .inr (12, [.int 0, .ref l1, .ref l2, .int 0, .int 0, .int 0, .long 0])), (l1, .inr (1, [.int 0, .ref a0, .int 0])), (l2, .inr (1, [.int 0, .ref a0, .int 0])), (qd, .inl (cD, 1, .inr (.inr (.inr (.inl (fun _ => 0)))))), (qo, .inl (cL, 1, .inr (.inl (vp_updL (fun _ => 0) ((0 : Int32).toNatClampNeg) 0))))] := hD
  have hK : va_K (dC, dI) vwCl [(cM, .object "Haltingale$Machine"), (cT, .object "Haltingale$Tag"), (cL, .long), (cD, .double), (cL, .long)] s := hK
  refine W.widen (k := 31) (n := 4324) (Nat.le_of_ble_eq_true rfl) (Nat.le_of_ble_eq_true rfl) ?_
  obtain rfl : r_3 = 0 := hw
  refine lv_istore (lv' := [(6, .int 0), (5, .int 0), (4, .ref qd), (3, .ref qo), (2, .ref m0), (1, .ref x0), (0, .ref b)]) hx hb dL_law_1526 hl (by decide) rfl (fun ls hl => ?_)
  refine lv_aload_n hx hb dL_law_1528 rfl (lv_at hl 4 rfl) ?_
  refine lv_aload_n hx hb dL_law_1529 rfl (lv_at hl 6 rfl) ?_
  refine lv_iload hx hb dL_law_1530 (lv_at hl 1 rfl) ?_
  refine lv_iconst (v := 1) hx hb dL_law_1532 (by decide) ?_
  refine lv_iadd hx hb dL_law_1533 ?_
  refine lv_topi (fun x_4 ex_4 => ?_)
  obtain rfl : x_4 = 1 := ex_4.trans (by decide)
  refine va_sld hx hb hX hbl hbA hS (by unfold vp_in; decide) dL_law_1534 ?_
  refine lv_topi (fun x_5 ex_5 => ?_)
  obtain rfl : x_5 = 0 := ex_5.trans (hp)
  have hPc := hP.sub (ws' := [(m0, .inr (12, [.int 0, .ref l1, .ref l2, .int 0, .int 0, .int 0, .long 0])), (l1, .inr (1, [.int 0, .ref a0, .int 0])), (l2, .inr (1, [.int 0, .ref a0, .int 0]))]) [2, 3, 4] rfl
  have hDc := hD.sub (ws' := [(m0, .inr (12, [.int 0, .ref l1, .ref l2, .int 0, .int 0, .int 0, .long 0])), (l1, .inr (1, [.int 0, .ref a0, .int 0])), (l2, .inr (1, [.int 0, .ref a0, .int 0]))]) [2, 3, 4] (by decide) rfl
  have hKc := hK.sub (tys' := []) [] rfl
  have hFc := va_free (wc := [(m0, .inr (12, [.int 0, .ref l1, .ref l2, .int 0, .int 0, .int 0, .long 0])), (l1, .inr (1, [.int 0, .ref a0, .int 0])), (l2, .inr (1, [.int 0, .ref a0, .int 0]))]) hD hS hA [2, 3, 4] rfl
  have hZc := ((hZ.kept hS.2.1).narrow hFc)
  refine va_calli (va_runV (As := [.int 0]) (rest := []) ⟨hx, hb, hml, hown, hts⟩ (c_X10_many_0 l hnt dC dI a0 m0 l1 l2 H.size ) (cwV 1 hts (goodIn_of _ (by decide +kernel)) rfl rfl rfl (by decide +kernel) ⟨Nat.le_of_ble_eq_true rfl, Nat.le_of_ble_eq_true rfl⟩) ⟨fun a U g mk q => by obtain ⟨q0, q1, qP, qK, qD, qZ⟩ := q; exact ⟨q0, q1, qP, va_K.moved (u := U) (U := U.calling g mk a) (Vm.Alike.refl U.vm) qK, qD, qZ.call⟩, va_recv hKc hPc (ci := 12) (q0 := 0) rfl rfl, fun U hU hW => ⟨rfl, by rw [hU], by rw [hU]; exact hPc, va_K.moved hW.alike hKc, hDc.weaken (fun _ _ _ _ => trivial), by rw [hU]; exact hZc.warm hW⟩⟩ rfl rfl hl.1 rfl (lv_room (Nat.le_of_ble_eq_true rfl)) dL_law_1535 ⟨Nat.le_of_ble_eq_true rfl, Nat.le_of_ble_eq_true rfl⟩) hS (fun q _ h => hFc q h) hFc (fun r_6 u t H1 locs ht hvm hw hB hz1 hk1 hS => ?_)
  obtain ⟨hP1, hK1, hD1⟩ := hB
  rw [ht] at hP1
  have hK1 := va_K.moved hvm.symm hK1
  obtain ⟨hP, hD⟩ := va_join (wr := [(qm, .inl (cM, 12, .inr (.inr (.inr (.inr (fun _ => none)))))), (qt, .inl (cT, 4, .inr (.inr (.inr (.inr (fun _ => none)))))), (qd, .inl (cD, 1, .inr (.inr (.inr (.inl (fun _ => 0)))))), (qo, .inl (cL, 1, .inr (.inl (vp_updL (fun _ => 0) ((0 : Int32).toNatClampNeg) 0))))]) (w1 := [(m0, .inr (12, [.int 0, .ref l1, .ref l2, .int 0, .int 0, .int 0, .long 0]))]) hP hD [2, 3, 4] [0, 1, 5, 6] rfl rfl (by decide) (by decide) hk1 hFc hP1 hD1
  have hK := (hK.sub (tys' := [(cM, .object "Haltingale$Machine"), (cT, .object "Haltingale$Tag"), (cL, .long), (cD, .double), (cL, .long)]) [0, 1, 2, 3, 4] rfl).app hK1
  generalize H1 = H at hP hS ⊢
  have hP : va_P (dC, dI) vwCl [(qm, .inl (cM, 12, .inr (.inr (.inr (.inr (fun _ => none)))))), (qt, .inl (cT, 4, .inr (.inr (.inr (.inr (fun _ => none)))))), (qd, .inl (cD, 1, .inr (.inr (.inr (.inl (fun _ => 0)))))), (qo, .inl (cL, 1, .inr (.inl (vp_updL (fun _ => 0) ((0 : Int32).toNatClampNeg) 0)))), (m0, .inr (12, [.int 0, .ref l1, .ref l2, .int 0, .int 0, .int 0, .long 0]))] H := hP
  have hD : va_D A [(qm, .inl (cM, 12, .inr (.inr (.inr (.inr (fun _ => none)))))), (qt, .inl (cT, 4, .inr (.inr (.inr (.inr (fun _ => none)))))), (qd, .inl (cD, 1, .inr (.inr (.inr (.inl (fun _ => 0)))))), (qo, .inl (cL, 1, .inr (.inl (vp_updL (fun _ => 0) ((0 : Int32).toNatClampNeg) 0)))), (m0, .inr (12, [.int 0, .ref l1, .ref l2, .int 0, .int 0, .int 0, .long 0]))] := hD
  have hK : va_K (dC, dI) vwCl [(cM, .object "Haltingale$Machine"), (cT, .object "Haltingale$Tag"), (cL, .long), (cD, .double), (cL, .long)] s := hK
  refine W.widen (k := 34) (n := 4344) (Nat.le_of_ble_eq_true rfl) (Nat.le_of_ble_eq_true rfl) ?_
  obtain rfl : r_6 = 0 := hw
  refine lv_istore (lv' := [(7, .int 0), (6, .int 0), (5, .int 0), (4, .ref qd), (3, .ref qo), (2, .ref m0), (1, .ref x0), (0, .ref b)]) hx hb dL_law_1538 hl (by decide) rfl (fun ls hl => ?_)
  refine lv_aload_n hx hb dL_law_1540 rfl (lv_at hl 5 rfl) ?_
  have hPc := hP.sub (ws' := [(m0, .inr (12, [.int 0, .ref l1, .ref l2, .int 0, .int 0, .int 0, .long 0]))]) [4] rfl
  have hDc := hD.sub (ws' := [(m0, .inr (12, [.int 0, .ref l1, .ref l2, .int 0, .int 0, .int 0, .long 0]))]) [4] (by decide) rfl
  have hKc := hK.sub (tys' := []) [] rfl
  have hFc := va_free (wc := [(m0, .inr (12, [.int 0, .ref l1, .ref l2, .int 0, .int 0, .int 0, .long 0]))]) hD hS hA [4] rfl
  have hZc := ((hZ.kept hS.2.1).narrow hFc)
  refine va_calli (va_runV (As := []) (rest := []) ⟨hx, hb, hml, hown, hts⟩ (c_X10_thrown l hnt dC dI a0 m0 l1 l2 0 H.size ) (cwV 0 hts (goodIn_of _ (by decide +kernel)) rfl rfl rfl (by decide +kernel) ⟨Nat.le_of_ble_eq_true rfl, Nat.le_of_ble_eq_true rfl⟩) ⟨fun a U g mk q => by obtain ⟨q0, q1, qP, qK, qD, qZ⟩ := q; exact ⟨q0, q1, qP, va_K.moved (u := U) (U := U.calling g mk a) (Vm.Alike.refl U.vm) qK, qD, qZ.call⟩, va_recv hKc hPc (ci := 12) (q0 := 0) rfl rfl, fun U hU hW => ⟨rfl, by rw [hU], by rw [hU]; exact hPc, va_K.moved hW.alike hKc, hDc.weaken (fun _ _ _ _ => trivial), by rw [hU]; exact hZc.warm hW⟩⟩ rfl rfl hl.1 rfl (lv_room (Nat.le_of_ble_eq_true rfl)) dL_law_1541 ⟨Nat.le_of_ble_eq_true rfl, Nat.le_of_ble_eq_true rfl⟩) hS (fun q _ h => hFc q h) hFc (fun r_7 u t H1 locs ht hvm hw hB hz1 hk1 hS => ?_)
  obtain ⟨hP1, hK1, hD1⟩ := hB
  rw [ht] at hP1
  have hK1 := va_K.moved hvm.symm hK1
  obtain ⟨hP, hD⟩ := va_join (wr := [(qm, .inl (cM, 12, .inr (.inr (.inr (.inr (fun _ => none)))))), (qt, .inl (cT, 4, .inr (.inr (.inr (.inr (fun _ => none)))))), (qd, .inl (cD, 1, .inr (.inr (.inr (.inl (fun _ => 0)))))), (qo, .inl (cL, 1, .inr (.inl (vp_updL (fun _ => 0) ((0 : Int32).toNatClampNeg) 0))))]) (w1 := []) hP hD [4] [0, 1, 2, 3] rfl rfl (by decide) (by decide) hk1 hFc hP1 hD1
  have hK := (hK.sub (tys' := [(cM, .object "Haltingale$Machine"), (cT, .object "Haltingale$Tag"), (cL, .long), (cD, .double), (cL, .long)]) [0, 1, 2, 3, 4] rfl).app hK1
  generalize H1 = H at hP hS ⊢
  have hP : va_P (dC, dI) vwCl [(qm, .inl (cM, 12, .inr (.inr (.inr (.inr (fun _ => none)))))), (qt, .inl (cT, 4, .inr (.inr (.inr (.inr (fun _ => none)))))), (qd, .inl (cD, 1, .inr (.inr (.inr (.inl (fun _ => 0)))))), (qo, .inl (cL, 1, .inr (.inl (vp_updL (fun _ => 0) ((0 : Int32).toNatClampNeg) 0))))] H := hP
  have hD : va_D A [(qm, .inl (cM, 12, .inr (.inr (.inr (.inr (fun _ => none)))))), (qt, .inl (cT, 4, .inr (.inr (.inr (.inr (fun _ => none)))))), (qd, .inl (cD, 1, .inr (.inr (.inr (.inl (fun _ => 0)))))), (qo, .inl (cL, 1, .inr (.inl (vp_updL (fun _ => 0) ((0 : Int32).toNatClampNeg) 0))))] := hD
  have hK : va_K (dC, dI) vwCl [(cM, .object "Haltingale$Machine"), (cT, .object "Haltingale$Tag"), (cL, .long), (cD, .double), (cL, .long)] s := hK
  refine W.widen (k := 34) (n := 4344) (Nat.le_of_ble_eq_true rfl) (Nat.le_of_ble_eq_true rfl) ?_
  obtain rfl : r_7 = 0 := hw
  refine lv_iload hx hb dL_law_1544 (lv_at hl 1 rfl) ?_
  refine lv_icmp_eq (tgt := 1551) hx hb dL_law_1546 (by decide) (fun c_8 => ?_) (fun c_8 => ?_)
  rotate_left
  · (first | exact absurd c_8 (by decide) | exact absurd (by decide) c_8)
  refine lv_iload hx hb dL_law_1551 (lv_at hl 1 rfl) ?_
  refine lv_if_ne (tgt := 1568) hx hb dL_law_1553 (by decide) (fun c_9 => ?_) (fun c_9 => ?_)
  · (first | exact absurd c_9 (by decide) | exact absurd (by decide) c_9)
  refine lv_aload_n hx hb dL_law_1556 rfl (lv_at hl 4 rfl) ?_
  refine lv_iconst (v := 0) hx hb dL_law_1557 (by decide) ?_
  refine va_lald hx hb hK hP 3 2 rfl rfl (by unfold vp_in; decide) dL_law_1558 ?_
  refine lv_topl (fun y_10 ey_10 => ?_)
  obtain rfl : y_10 = 0 := ey_10.trans (by decide +kernel)
  refine lv_iload hx hb dL_law_1559 (lv_at hl 0 rfl) ?_
  refine lv_i2l (v := 0) hx hb dL_law_1561 (by decide) ?_
  refine W.lcmp hx hb dL_law_1562 ?_
  refine lv_topi (fun x_11 ex_11 => ?_)
  obtain rfl : x_11 = 0 := ex_11.trans (by decide +kernel)
  refine lv_if_eq (tgt := 1568) hx hb dL_law_1563 (by decide) (fun c_12 => ?_) (fun c_12 => ?_)
  rotate_left
  · (first | exact absurd c_12 (by decide) | exact absurd (by decide) c_12)
  refine lv_goto (tgt := 1806) hx hb dL_law_1568 (by decide) ?_
  refine lv_iinc (v := 7) (lv' := [(5, .int 7), (7, .int 0), (6, .int 0), (4, .ref qd), (3, .ref qo), (2, .ref m0), (1, .ref x0), (0, .ref b)]) hx hb dL_law_1806 hl (k := 2) rfl (by decide) (by decide) rfl (fun ls hl => ?_)
  refine lv_goto (tgt := 28) hx hb dL_law_1809 (by decide) ?_
  refine lv_iload hx hb dL_law_28 (lv_at hl 0 rfl) ?_
  refine lv_aload_n hx hb dL_law_30 rfl (lv_at hl 7 rfl) ?_
  refine va_slen hx hb hX hbl hbA hS dL_law_31 ?_
  refine lv_topi (fun x_13 ex_13 => ?_)
  obtain rfl : x_13 = 7 := ex_13.trans (by decide)
  refine lv_bipush (v := 7) hx hb dL_law_32 (by decide) ?_
  refine lv_isub hx hb dL_law_34 ?_
  refine lv_topi (fun x_14 ex_14 => ?_)
  obtain rfl : x_14 = 0 := ex_14.trans (by decide)
  refine lv_icmp_gt (tgt := 1812) hx hb dL_law_35 (by decide) (fun c_15 => ?_) (fun c_15 => ?_)
  rotate_left
  · (first | exact absurd c_15 (by decide) | exact absurd (by decide) c_15)
  refine lv_iconst (v := 1) hx hb dL_law_1812 (by decide) ?_
  refine va_forget (fun q hq => hA2 _ (hS.2.2 q hq)) ?_
  refine W.widen (k := room_1.cells) (n := room_1.slots) (Nat.le_of_ble_eq_true rfl) (Nat.le_of_ble_eq_true rfl) ?_
  exact lw_ret0 hx hb hr hlocks dL_law_1813

set_option maxHeartbeats 4000000 in
set_option maxRecDepth 100000 in
/-- the law, case 17 -/
theorem law_17_1 {p : Program} {l : Launch} (hnt : l.stackTraces = false) {e : Env} {s : State} {m : MethodId} {below : List Frame} {meth : Method} {c : Code} {dC : Nat → ClassId} {dI : Nat → Nat → Nat} {a0 b : Nat} {xs : Nat → Int32} (C0 : lw_At p s m meth c b 7 xs) {A : Nat → Prop} (hA : ∀ q : Nat, s.heap.size ≤ q → A q) (hA2 : ∀ q : Nat, A q → s.heap.size ≤ q) (hZ : zB a0 A s s.heap) {x0 : Nat} {qm : Nat} {qt : Nat} {qw : Nat} {qc : Nat} {qb : Nat} {qg : Nat} {m0 : Nat} {l1 : Nat} {l2 : Nat} {qo : Nat} {qd : Nat} {cM : ClassId} {cT : ClassId} {cL : ClassId} {cD : ClassId} {H : Heap} {locs : List Loc} (hK : va_K (dC, dI) vwCl [(cM, .object "Haltingale$Machine"), (cT, .object "Haltingale$Tag"), (cL, .long), (cD, .double)] s) (hP : va_P (dC, dI) vwCl [(x0, .inr (9, [.ref qm, .ref qt, .ref qw, .ref qc, .ref qb, .ref qg, .int 0, .int 0, .int 0, .int 0, .int 0])), (qm, .inl (cM, 12, .inr (.inr (.inr (.inr (fun _ => none)))))), (qt, .inl (cT, 4, .inr (.inr (.inr (.inr (fun _ => none)))))), (m0, .inr (12, [.int 0, .ref l1, .ref l2, .int 0, .int 0, .int 0, .long 0])), (l1, .inr (1, [.int 0, .ref a0, .int 0])), (l2, .inr (1, [.int 0, .ref a0, .int 0])), (qo, .inl (cL, 1, .inr (.inl (fun _ => 0)))), (qd, .inl (cD, 1, .inr (.inr (.inr (.inl (fun _ => 0))))))] H) (hD : va_D A [(x0, .inr (9, [.ref qm, .ref qt, .ref qw, .ref qc, .ref qb, .ref qg, .int 0, .int 0, .int 0, .int 0, .int 0])), (qm, .inl (cM, 12, .inr (.inr (.inr (.inr (fun _ => none)))))), (qt, .inl (cT, 4, .inr (.inr (.inr (.inr (fun _ => none)))))), (m0, .inr (12, [.int 0, .ref l1, .ref l2, .int 0, .int 0, .int 0, .long 0])), (l1, .inr (1, [.int 0, .ref a0, .int 0])), (l2, .inr (1, [.int 0, .ref a0, .int 0])), (qo, .inl (cL, 1, .inr (.inl (fun _ => 0)))), (qd, .inl (cD, 1, .inr (.inr (.inr (.inl (fun _ => 0))))))]) (hS : va_S A s.heap H locs) {ls : Array Slot} (hl : lv_has ls 10 [(5, .int 0), (4, .ref qd), (3, .ref qo), (2, .ref m0), (1, .ref x0), (0, .ref b)]) (hp : xs ((1 : Int32).toNatClampNeg) = 1) : W p l e room_1 s m #[Value.ref b] below meth c H locs 31 4324 (lw_Z below #[Value.ref b] s) (F0 m 1515 ls []) := by
  obtain ⟨hx, hb, hr, hml, hown, hts0, hX, hbl, hlocks, hgv⟩ := C0
  have hts : ∀ w ∈ zs_law, w.before #[Value.ref b] s = true := fun w h => hts0 w (zs_law_in w h)
  have hbA : ¬ A b := fun h => absurd (hA2 b h) (Nat.not_le.mpr hbl)
  refine lv_aload_n hx hb dL_law_1515 rfl (lv_at hl 4 rfl) ?_
  refine lv_aload_n hx hb dL_law_1516 rfl (lv_at hl 5 rfl) ?_
  refine lv_iload hx hb dL_law_1517 (lv_at hl 0 rfl) ?_
  refine lv_iconst (v := 1) hx hb dL_law_1519 (by decide) ?_
  refine lv_iadd hx hb dL_law_1520 ?_
  refine lv_topi (fun x_1 ex_1 => ?_)
  obtain rfl : x_1 = 1 := ex_1.trans (by decide)
  refine va_sld hx hb hX hbl hbA hS (by unfold vp_in; decide) dL_law_1521 ?_
  refine lv_topi (fun x_2 ex_2 => ?_)
  obtain rfl : x_2 = 1 := ex_2.trans (hp)
  refine lv_aload_n hx hb dL_law_1522 rfl (lv_at hl 2 rfl) ?_
  have hPc := hP.sub (ws' := [(x0, .inr (9, [.ref qm, .ref qt, .ref qw, .ref qc, .ref qb, .ref qg, .int 0, .int 0, .int 0, .int 0, .int 0])), (qo, .inl (cL, 1, .inr (.inl (fun _ => 0))))]) [0, 6] rfl
  have hDc := hD.sub (ws' := [(x0, .inr (9, [.ref qm, .ref qt, .ref qw, .ref qc, .ref qb, .ref qg, .int 0, .int 0, .int 0, .int 0, .int 0])), (qo, .inl (cL, 1, .inr (.inl (fun _ => 0))))]) [0, 6] (by decide) rfl
  have hKc := hK.sub (tys' := [(cL, .long)]) [2] rfl
  have hFc := va_free (wc := [(x0, .inr (9, [.ref qm, .ref qt, .ref qw, .ref qc, .ref qb, .ref qg, .int 0, .int 0, .int 0, .int 0, .int 0])), (qo, .inl (cL, 1, .inr (.inl (fun _ => 0))))]) hD hS hA [0, 6] rfl
  have hZc := ((hZ.kept hS.2.1).narrow hFc)
  refine va_calli (vx_runSW (As := [.ref x0, .int 1, .ref qo]) (rest := []) ⟨hx, hb, hml, hown, hts⟩ (c_L_many_1 l hnt dC dI a0 x0 qm qt qw qc qb qg qo cL H.size ) (vx_cwSW 3 hts (goodIn_of _ (by decide +kernel)) rfl rfl rfl (by decide +kernel) ⟨Nat.le_of_ble_eq_true rfl, Nat.le_of_ble_eq_true rfl⟩) ⟨fun a U g mk q => by obtain ⟨q0, q1, qP, qK, qD, qZ⟩ := q; exact ⟨q0, q1, qP, va_K.moved (u := U) (U := U.calling g mk a) (Vm.Alike.refl U.vm) qK, qD, qZ.call⟩, fun U hU hW => ⟨rfl, by rw [hU], by rw [hU]; exact hPc, va_K.moved hW.alike hKc, hDc.weaken (fun _ _ _ _ => trivial), by rw [hU]; exact hZc.warm hW⟩⟩ rfl rfl hl.1 rfl (lv_room (Nat.le_of_ble_eq_true rfl)) dL_law_1523 ⟨Nat.le_of_ble_eq_true rfl, Nat.le_of_ble_eq_true rfl⟩) hS (fun q _ h => hFc q h) hFc (fun r_3 u t H1 locs ht hvm hw hB hz1 hk1 hS => ?_)
  obtain ⟨hP1, hK1, hD1⟩ := hB
  rw [ht] at hP1
  have hK1 := va_K.moved hvm.symm hK1
  obtain ⟨hP, hD⟩ := va_join (wr := [(qm, .inl (cM, 12, .inr (.inr (.inr (.inr (fun _ => none)))))), (qt, .inl (cT, 4, .inr (.inr (.inr (.inr (fun _ => none)))))), (m0, .inr (12, [.int 0, .ref l1, .ref l2, .int 0, .int 0, .int 0, .long 0])), (l1, .inr (1, [.int 0, .ref a0, .int 0])), (l2, .inr (1, [.int 0, .ref a0, .int 0])), (qd, .inl (cD, 1, .inr (.inr (.inr (.inl (fun _ => 0))))))]) (w1 := [(qo, .inl (cL, 1, .inr (.inl (vp_updL (fun _ => 0) ((0 : Int32).toNatClampNeg) 0))))]) hP hD [0, 6] [1, 2, 3, 4, 5, 7] rfl rfl (by decide) (by decide) hk1 hFc hP1 hD1
  have hK := (hK.sub (tys' := [(cM, .object "Haltingale$Machine"), (cT, .object "Haltingale$Tag"), (cL, .long), (cD, .double)]) [0, 1, 2, 3] rfl).app hK1
  generalize H1 = H at hP hS ⊢
  have hP : va_P (dC, dI) vwCl [(qm, .inl (cM, 12, .inr (.inr (.inr (.inr (fun _ => none)))))), (qt, .inl (cT, 4, .inr (.inr (.inr (.inr (fun _ => none)))))), (m0, .inr (12, [.int 0, .ref l1, .ref l2, .int 0, .int 0, .int 0, .long 0])), (l1, .inr (1, [.int 0, .ref a0, .int 0])), (l2, .inr (1, [.int 0, .ref a0, .int 0])), (qd, .inl (cD, 1, .inr (.inr (.inr (.inl (fun _ => 0)))))), (qo, .inl (cL, 1, .inr (.inl (vp_updL (fun _ => 0) ((0 : Int32).toNatClampNeg) 0))))] H := hP
  have hD : va_D A [(qm, .inl (cM, 12, .inr (.inr (.inr (.inr (fun _ => none)))))), (qt, .inl (cT, 4, .inr (.inr (.inr (.inr (fun _ => none)))))), (m0, .inr (12, [.int 0, .ref l1, .ref l2, .int 0, .int 0, .int 0, .long 0])), (l1, .inr (1, [.int 0, .ref a0, .int 0])), (l2, .inr (1, [.int 0, .ref a0, .int 0])), (qd, .inl (cD, 1, .inr (.inr (.inr (.inl (fun _ => 0)))))), (qo, .inl (cL, 1, .inr (.inl (vp_updL (fun _ => 0) ((0 : Int32).toNatClampNeg) 0))))] := hD
  have hK : va_K (dC, dI) vwCl [(cM, .object "Haltingale$Machine"), (cT, .object "Haltingale$Tag"), (cL, .long), (cD, .double), (cL, .long)] s := hK
  refine W.widen (k := 31) (n := 4324) (Nat.le_of_ble_eq_true rfl) (Nat.le_of_ble_eq_true rfl) ?_
  obtain rfl : r_3 = 0 := hw
  refine lv_istore (lv' := [(6, .int 0), (5, .int 0), (4, .ref qd), (3, .ref qo), (2, .ref m0), (1, .ref x0), (0, .ref b)]) hx hb dL_law_1526 hl (by decide) rfl (fun ls hl => ?_)
  refine lv_aload_n hx hb dL_law_1528 rfl (lv_at hl 4 rfl) ?_
  refine lv_aload_n hx hb dL_law_1529 rfl (lv_at hl 6 rfl) ?_
  refine lv_iload hx hb dL_law_1530 (lv_at hl 1 rfl) ?_
  refine lv_iconst (v := 1) hx hb dL_law_1532 (by decide) ?_
  refine lv_iadd hx hb dL_law_1533 ?_
  refine lv_topi (fun x_4 ex_4 => ?_)
  obtain rfl : x_4 = 1 := ex_4.trans (by decide)
  refine va_sld hx hb hX hbl hbA hS (by unfold vp_in; decide) dL_law_1534 ?_
  refine lv_topi (fun x_5 ex_5 => ?_)
  obtain rfl : x_5 = 1 := ex_5.trans (hp)
  have hPc := hP.sub (ws' := [(m0, .inr (12, [.int 0, .ref l1, .ref l2, .int 0, .int 0, .int 0, .long 0])), (l1, .inr (1, [.int 0, .ref a0, .int 0])), (l2, .inr (1, [.int 0, .ref a0, .int 0]))]) [2, 3, 4] rfl
  have hDc := hD.sub (ws' := [(m0, .inr (12, [.int 0, .ref l1, .ref l2, .int 0, .int 0, .int 0, .long 0])), (l1, .inr (1, [.int 0, .ref a0, .int 0])), (l2, .inr (1, [.int 0, .ref a0, .int 0]))]) [2, 3, 4] (by decide) rfl
  have hKc := hK.sub (tys' := []) [] rfl
  have hFc := va_free (wc := [(m0, .inr (12, [.int 0, .ref l1, .ref l2, .int 0, .int 0, .int 0, .long 0])), (l1, .inr (1, [.int 0, .ref a0, .int 0])), (l2, .inr (1, [.int 0, .ref a0, .int 0]))]) hD hS hA [2, 3, 4] rfl
  have hZc := ((hZ.kept hS.2.1).narrow hFc)
  refine va_calli (va_runV (As := [.int 1]) (rest := []) ⟨hx, hb, hml, hown, hts⟩ (c_X10_many_1 l hnt dC dI a0 m0 l1 l2 H.size ) (cwV 1 hts (goodIn_of _ (by decide +kernel)) rfl rfl rfl (by decide +kernel) ⟨Nat.le_of_ble_eq_true rfl, Nat.le_of_ble_eq_true rfl⟩) ⟨fun a U g mk q => by obtain ⟨q0, q1, qP, qK, qD, qZ⟩ := q; exact ⟨q0, q1, qP, va_K.moved (u := U) (U := U.calling g mk a) (Vm.Alike.refl U.vm) qK, qD, qZ.call⟩, va_recv hKc hPc (ci := 12) (q0 := 0) rfl rfl, fun U hU hW => ⟨rfl, by rw [hU], by rw [hU]; exact hPc, va_K.moved hW.alike hKc, hDc.weaken (fun _ _ _ _ => trivial), by rw [hU]; exact hZc.warm hW⟩⟩ rfl rfl hl.1 rfl (lv_room (Nat.le_of_ble_eq_true rfl)) dL_law_1535 ⟨Nat.le_of_ble_eq_true rfl, Nat.le_of_ble_eq_true rfl⟩) hS (fun q _ h => hFc q h) hFc (fun r_6 u t H1 locs ht hvm hw hB hz1 hk1 hS => ?_)
  obtain ⟨hP1, hK1, hD1⟩ := hB
  rw [ht] at hP1
  have hK1 := va_K.moved hvm.symm hK1
  obtain ⟨hP, hD⟩ := va_join (wr := [(qm, .inl (cM, 12, .inr (.inr (.inr (.inr (fun _ => none)))))), (qt, .inl (cT, 4, .inr (.inr (.inr (.inr (fun _ => none)))))), (qd, .inl (cD, 1, .inr (.inr (.inr (.inl (fun _ => 0)))))), (qo, .inl (cL, 1, .inr (.inl (vp_updL (fun _ => 0) ((0 : Int32).toNatClampNeg) 0))))]) (w1 := [(m0, .inr (12, [.int 0, .ref l1, .ref l2, .int 0, .int 0, .int 0, .long 0]))]) hP hD [2, 3, 4] [0, 1, 5, 6] rfl rfl (by decide) (by decide) hk1 hFc hP1 hD1
  have hK := (hK.sub (tys' := [(cM, .object "Haltingale$Machine"), (cT, .object "Haltingale$Tag"), (cL, .long), (cD, .double), (cL, .long)]) [0, 1, 2, 3, 4] rfl).app hK1
  generalize H1 = H at hP hS ⊢
  have hP : va_P (dC, dI) vwCl [(qm, .inl (cM, 12, .inr (.inr (.inr (.inr (fun _ => none)))))), (qt, .inl (cT, 4, .inr (.inr (.inr (.inr (fun _ => none)))))), (qd, .inl (cD, 1, .inr (.inr (.inr (.inl (fun _ => 0)))))), (qo, .inl (cL, 1, .inr (.inl (vp_updL (fun _ => 0) ((0 : Int32).toNatClampNeg) 0)))), (m0, .inr (12, [.int 0, .ref l1, .ref l2, .int 0, .int 0, .int 0, .long 0]))] H := hP
  have hD : va_D A [(qm, .inl (cM, 12, .inr (.inr (.inr (.inr (fun _ => none)))))), (qt, .inl (cT, 4, .inr (.inr (.inr (.inr (fun _ => none)))))), (qd, .inl (cD, 1, .inr (.inr (.inr (.inl (fun _ => 0)))))), (qo, .inl (cL, 1, .inr (.inl (vp_updL (fun _ => 0) ((0 : Int32).toNatClampNeg) 0)))), (m0, .inr (12, [.int 0, .ref l1, .ref l2, .int 0, .int 0, .int 0, .long 0]))] := hD
  have hK : va_K (dC, dI) vwCl [(cM, .object "Haltingale$Machine"), (cT, .object "Haltingale$Tag"), (cL, .long), (cD, .double), (cL, .long)] s := hK
  refine W.widen (k := 34) (n := 4344) (Nat.le_of_ble_eq_true rfl) (Nat.le_of_ble_eq_true rfl) ?_
  obtain rfl : r_6 = 0 := hw
  refine lv_istore (lv' := [(7, .int 0), (6, .int 0), (5, .int 0), (4, .ref qd), (3, .ref qo), (2, .ref m0), (1, .ref x0), (0, .ref b)]) hx hb dL_law_1538 hl (by decide) rfl (fun ls hl => ?_)
  refine lv_aload_n hx hb dL_law_1540 rfl (lv_at hl 5 rfl) ?_
  have hPc := hP.sub (ws' := [(m0, .inr (12, [.int 0, .ref l1, .ref l2, .int 0, .int 0, .int 0, .long 0]))]) [4] rfl
  have hDc := hD.sub (ws' := [(m0, .inr (12, [.int 0, .ref l1, .ref l2, .int 0, .int 0, .int 0, .long 0]))]) [4] (by decide) rfl
  have hKc := hK.sub (tys' := []) [] rfl
  have hFc := va_free (wc := [(m0, .inr (12, [.int 0, .ref l1, .ref l2, .int 0, .int 0, .int 0, .long 0]))]) hD hS hA [4] rfl
  have hZc := ((hZ.kept hS.2.1).narrow hFc)
  refine va_calli (va_runV (As := []) (rest := []) ⟨hx, hb, hml, hown, hts⟩ (c_X10_thrown l hnt dC dI a0 m0 l1 l2 0 H.size ) (cwV 0 hts (goodIn_of _ (by decide +kernel)) rfl rfl rfl (by decide +kernel) ⟨Nat.le_of_ble_eq_true rfl, Nat.le_of_ble_eq_true rfl⟩) ⟨fun a U g mk q => by obtain ⟨q0, q1, qP, qK, qD, qZ⟩ := q; exact ⟨q0, q1, qP, va_K.moved (u := U) (U := U.calling g mk a) (Vm.Alike.refl U.vm) qK, qD, qZ.call⟩, va_recv hKc hPc (ci := 12) (q0 := 0) rfl rfl, fun U hU hW => ⟨rfl, by rw [hU], by rw [hU]; exact hPc, va_K.moved hW.alike hKc, hDc.weaken (fun _ _ _ _ => trivial), by rw [hU]; exact hZc.warm hW⟩⟩ rfl rfl hl.1 rfl (lv_room (Nat.le_of_ble_eq_true rfl)) dL_law_1541 ⟨Nat.le_of_ble_eq_true rfl, Nat.le_of_ble_eq_true rfl⟩) hS (fun q _ h => hFc q h) hFc (fun r_7 u t H1 locs ht hvm hw hB hz1 hk1 hS => ?_)
  obtain ⟨hP1, hK1, hD1⟩ := hB
  rw [ht] at hP1
  have hK1 := va_K.moved hvm.symm hK1
  obtain ⟨hP, hD⟩ := va_join (wr := [(qm, .inl (cM, 12, .inr (.inr (.inr (.inr (fun _ => none)))))), (qt, .inl (cT, 4, .inr (.inr (.inr (.inr (fun _ => none)))))), (qd, .inl (cD, 1, .inr (.inr (.inr (.inl (fun _ => 0)))))), (qo, .inl (cL, 1, .inr (.inl (vp_updL (fun _ => 0) ((0 : Int32).toNatClampNeg) 0))))]) (w1 := []) hP hD [4] [0, 1, 2, 3] rfl rfl (by decide) (by decide) hk1 hFc hP1 hD1
  have hK := (hK.sub (tys' := [(cM, .object "Haltingale$Machine"), (cT, .object "Haltingale$Tag"), (cL, .long), (cD, .double), (cL, .long)]) [0, 1, 2, 3, 4] rfl).app hK1
  generalize H1 = H at hP hS ⊢
  have hP : va_P (dC, dI) vwCl [(qm, .inl (cM, 12, .inr (.inr (.inr (.inr (fun _ => none)))))), (qt, .inl (cT, 4, .inr (.inr (.inr (.inr (fun _ => none)))))), (qd, .inl (cD, 1, .inr (.inr (.inr (.inl (fun _ => 0)))))), (qo, .inl (cL, 1, .inr (.inl (vp_updL (fun _ => 0) ((0 : Int32).toNatClampNeg) 0))))] H := hP
  have hD : va_D A [(qm, .inl (cM, 12, .inr (.inr (.inr (.inr (fun _ => none)))))), (qt, .inl (cT, 4, .inr (.inr (.inr (.inr (fun _ => none)))))), (qd, .inl (cD, 1, .inr (.inr (.inr (.inl (fun _ => 0)))))), (qo, .inl (cL, 1, .inr (.inl (vp_updL (fun _ => 0) ((0 : Int32).toNatClampNeg) 0))))] := hD
  have hK : va_K (dC, dI) vwCl [(cM, .object "Haltingale$Machine"), (cT, .object "Haltingale$Tag"), (cL, .long), (cD, .double), (cL, .long)] s := hK
  refine W.widen (k := 34) (n := 4344) (Nat.le_of_ble_eq_true rfl) (Nat.le_of_ble_eq_true rfl) ?_
  obtain rfl : r_7 = 0 := hw
  refine lv_iload hx hb dL_law_1544 (lv_at hl 1 rfl) ?_
  refine lv_icmp_eq (tgt := 1551) hx hb dL_law_1546 (by decide) (fun c_8 => ?_) (fun c_8 => ?_)
  rotate_left
  · (first | exact absurd c_8 (by decide) | exact absurd (by decide) c_8)
  refine lv_iload hx hb dL_law_1551 (lv_at hl 1 rfl) ?_
  refine lv_if_ne (tgt := 1568) hx hb dL_law_1553 (by decide) (fun c_9 => ?_) (fun c_9 => ?_)
  · (first | exact absurd c_9 (by decide) | exact absurd (by decide) c_9)
  refine lv_aload_n hx hb dL_law_1556 rfl (lv_at hl 4 rfl) ?_
  refine lv_iconst (v := 0) hx hb dL_law_1557 (by decide) ?_
  refine va_lald hx hb hK hP 3 2 rfl rfl (by unfold vp_in; decide) dL_law_1558 ?_
  refine lv_topl (fun y_10 ey_10 => ?_)
  obtain rfl : y_10 = 0 := ey_10.trans (by decide +kernel)
  refine lv_iload hx hb dL_law_1559 (lv_at hl 0 rfl) ?_
  refine lv_i2l (v := 0) hx hb dL_law_1561 (by decide) ?_
  refine W.lcmp hx hb dL_law_1562 ?_
  refine lv_topi (fun x_11 ex_11 => ?_)
  obtain rfl : x_11 = 0 := ex_11.trans (by decide +kernel)
  refine lv_if_eq (tgt := 1568) hx hb dL_law_1563 (by decide) (fun c_12 => ?_) (fun c_12 => ?_)
  rotate_left
  · (first | exact absurd c_12 (by decide) | exact absurd (by decide) c_12)
  refine lv_goto (tgt := 1806) hx hb dL_law_1568 (by decide) ?_
  refine lv_iinc (v := 7) (lv' := [(5, .int 7), (7, .int 0), (6, .int 0), (4, .ref qd), (3, .ref qo), (2, .ref m0), (1, .ref x0), (0, .ref b)]) hx hb dL_law_1806 hl (k := 2) rfl (by decide) (by decide) rfl (fun ls hl => ?_)
  refine lv_goto (tgt := 28) hx hb dL_law_1809 (by decide) ?_
  refine lv_iload hx hb dL_law_28 (lv_at hl 0 rfl) ?_
  refine lv_aload_n hx hb dL_law_30 rfl (lv_at hl 7 rfl) ?_
  refine va_slen hx hb hX hbl hbA hS dL_law_31 ?_
  refine lv_topi (fun x_13 ex_13 => ?_)
  obtain rfl : x_13 = 7 := ex_13.trans (by decide)
  refine lv_bipush (v := 7) hx hb dL_law_32 (by decide) ?_
  refine lv_isub hx hb dL_law_34 ?_
  refine lv_topi (fun x_14 ex_14 => ?_)
  obtain rfl : x_14 = 0 := ex_14.trans (by decide)
  refine lv_icmp_gt (tgt := 1812) hx hb dL_law_35 (by decide) (fun c_15 => ?_) (fun c_15 => ?_)
  rotate_left
  · (first | exact absurd c_15 (by decide) | exact absurd (by decide) c_15)
  refine lv_iconst (v := 1) hx hb dL_law_1812 (by decide) ?_
  refine va_forget (fun q hq => hA2 _ (hS.2.2 q hq)) ?_
  refine W.widen (k := room_1.cells) (n := room_1.slots) (Nat.le_of_ble_eq_true rfl) (Nat.le_of_ble_eq_true rfl) ?_
  exact lw_ret0 hx hb hr hlocks dL_law_1813

set_option maxHeartbeats 4000000 in
set_option maxRecDepth 100000 in
/-- the law, case 17 -/
theorem law_17_2 {p : Program} {l : Launch} (hnt : l.stackTraces = false) {e : Env} {s : State} {m : MethodId} {below : List Frame} {meth : Method} {c : Code} {dC : Nat → ClassId} {dI : Nat → Nat → Nat} {a0 b : Nat} {xs : Nat → Int32} (C0 : lw_At p s m meth c b 7 xs) {A : Nat → Prop} (hA : ∀ q : Nat, s.heap.size ≤ q → A q) (hA2 : ∀ q : Nat, A q → s.heap.size ≤ q) (hZ : zB a0 A s s.heap) {x0 : Nat} {qm : Nat} {qt : Nat} {qw : Nat} {qc : Nat} {qb : Nat} {qg : Nat} {m0 : Nat} {l1 : Nat} {l2 : Nat} {qo : Nat} {qd : Nat} {cM : ClassId} {cT : ClassId} {cL : ClassId} {cD : ClassId} {H : Heap} {locs : List Loc} (hK : va_K (dC, dI) vwCl [(cM, .object "Haltingale$Machine"), (cT, .object "Haltingale$Tag"), (cL, .long), (cD, .double)] s) (hP : va_P (dC, dI) vwCl [(x0, .inr (9, [.ref qm, .ref qt, .ref qw, .ref qc, .ref qb, .ref qg, .int 0, .int 0, .int 0, .int 0, .int 0])), (qm, .inl (cM, 12, .inr (.inr (.inr (.inr (fun _ => none)))))), (qt, .inl (cT, 4, .inr (.inr (.inr (.inr (fun _ => none)))))), (m0, .inr (12, [.int 0, .ref l1, .ref l2, .int 0, .int 0, .int 0, .long 0])), (l1, .inr (1, [.int 0, .ref a0, .int 0])), (l2, .inr (1, [.int 0, .ref a0, .int 0])), (qo, .inl (cL, 1, .inr (.inl (fun _ => 0)))), (qd, .inl (cD, 1, .inr (.inr (.inr (.inl (fun _ => 0))))))] H) (hD : va_D A [(x0, .inr (9, [.ref qm, .ref qt, .ref qw, .ref qc, .ref qb, .ref qg, .int 0, .int 0, .int 0, .int 0, .int 0])), (qm, .inl (cM, 12, .inr (.inr (.inr (.inr (fun _ => none)))))), (qt, .inl (cT, 4, .inr (.inr (.inr (.inr (fun _ => none)))))), (m0, .inr (12, [.int 0, .ref l1, .ref l2, .int 0, .int 0, .int 0, .long 0])), (l1, .inr (1, [.int 0, .ref a0, .int 0])), (l2, .inr (1, [.int 0, .ref a0, .int 0])), (qo, .inl (cL, 1, .inr (.inl (fun _ => 0)))), (qd, .inl (cD, 1, .inr (.inr (.inr (.inl (fun _ => 0))))))]) (hS : va_S A s.heap H locs) {ls : Array Slot} (hl : lv_has ls 10 [(5, .int 0), (4, .ref qd), (3, .ref qo), (2, .ref m0), (1, .ref x0), (0, .ref b)]) (hp : xs ((1 : Int32).toNatClampNeg) = 2) : W p l e room_1 s m #[Value.ref b] below meth c H locs 31 4324 (lw_Z below #[Value.ref b] s) (F0 m 1515 ls []) := by
  obtain ⟨hx, hb, hr, hml, hown, hts0, hX, hbl, hlocks, hgv⟩ := C0
  have hts : ∀ w ∈ zs_law, w.before #[Value.ref b] s = true := fun w h => hts0 w (zs_law_in w h)
  have hbA : ¬ A b := fun h => absurd (hA2 b h) (Nat.not_le.mpr hbl)
  refine lv_aload_n hx hb dL_law_1515 rfl (lv_at hl 4 rfl) ?_
  refine lv_aload_n hx hb dL_law_1516 rfl (lv_at hl 5 rfl) ?_
  refine lv_iload hx hb dL_law_1517 (lv_at hl 0 rfl) ?_
  refine lv_iconst (v := 1) hx hb dL_law_1519 (by decide) ?_
  refine lv_iadd hx hb dL_law_1520 ?_
  refine lv_topi (fun x_1 ex_1 => ?_)
  obtain rfl : x_1 = 1 := ex_1.trans (by decide)
  refine va_sld hx hb hX hbl hbA hS (by unfold vp_in; decide) dL_law_1521 ?_
  refine lv_topi (fun x_2 ex_2 => ?_)
  obtain rfl : x_2 = 2 := ex_2.trans (hp)
  refine lv_aload_n hx hb dL_law_1522 rfl (lv_at hl 2 rfl) ?_
  have hPc := hP.sub (ws' := [(x0, .inr (9, [.ref qm, .ref qt, .ref qw, .ref qc, .ref qb, .ref qg, .int 0, .int 0, .int 0, .int 0, .int 0])), (qo, .inl (cL, 1, .inr (.inl (fun _ => 0))))]) [0, 6] rfl
  have hDc := hD.sub (ws' := [(x0, .inr (9, [.ref qm, .ref qt, .ref qw, .ref qc, .ref qb, .ref qg, .int 0, .int 0, .int 0, .int 0, .int 0])), (qo, .inl (cL, 1, .inr (.inl (fun _ => 0))))]) [0, 6] (by decide) rfl
  have hKc := hK.sub (tys' := [(cL, .long)]) [2] rfl
  have hFc := va_free (wc := [(x0, .inr (9, [.ref qm, .ref qt, .ref qw, .ref qc, .ref qb, .ref qg, .int 0, .int 0, .int 0, .int 0, .int 0])), (qo, .inl (cL, 1, .inr (.inl (fun _ => 0))))]) hD hS hA [0, 6] rfl
  have hZc := ((hZ.kept hS.2.1).narrow hFc)
  refine va_calli (vx_runSW (As := [.ref x0, .int 2, .ref qo]) (rest := []) ⟨hx, hb, hml, hown, hts⟩ (c_L_many_2 l hnt dC dI a0 x0 qm qt qw qc qb qg qo cL H.size ) (vx_cwSW 3 hts (goodIn_of _ (by decide +kernel)) rfl rfl rfl (by decide +kernel) ⟨Nat.le_of_ble_eq_true rfl, Nat.le_of_ble_eq_true rfl⟩) ⟨fun a U g mk q => by obtain ⟨q0, q1, qP, qK, qD, qZ⟩ := q; exact ⟨q0, q1, qP, va_K.moved (u := U) (U := U.calling g mk a) (Vm.Alike.refl U.vm) qK, qD, qZ.call⟩, fun U hU hW => ⟨rfl, by rw [hU], by rw [hU]; exact hPc, va_K.moved hW.alike hKc, hDc.weaken (fun _ _ _ _ => trivial), by rw [hU]; exact hZc.warm hW⟩⟩ rfl rfl hl.1 rfl (lv_room (Nat.le_of_ble_eq_true rfl)) dL_law_1523 ⟨Nat.le_of_ble_eq_true rfl, Nat.le_of_ble_eq_true rfl⟩) hS (fun q _ h => hFc q h) hFc (fun r_3 u t H1 locs ht hvm hw hB hz1 hk1 hS => ?_)
  obtain ⟨hP1, hK1, hD1⟩ := hB
  rw [ht] at hP1
  have hK1 := va_K.moved hvm.symm hK1
  obtain ⟨hP, hD⟩ := va_join (wr := [(qm, .inl (cM, 12, .inr (.inr (.inr (.inr (fun _ => none)))))), (qt, .inl (cT, 4, .inr (.inr (.inr (.inr (fun _ => none)))))), (m0, .inr (12, [.int 0, .ref l1, .ref l2, .int 0, .int 0, .int 0, .long 0])), (l1, .inr (1, [.int 0, .ref a0, .int 0])), (l2, .inr (1, [.int 0, .ref a0, .int 0])), (qd, .inl (cD, 1, .inr (.inr (.inr (.inl (fun _ => 0))))))]) (w1 := [(qo, .inl (cL, 1, .inr (.inl (vp_updL (fun _ => 0) ((0 : Int32).toNatClampNeg) 0))))]) hP hD [0, 6] [1, 2, 3, 4, 5, 7] rfl rfl (by decide) (by decide) hk1 hFc hP1 hD1
  have hK := (hK.sub (tys' := [(cM, .object "Haltingale$Machine"), (cT, .object "Haltingale$Tag"), (cL, .long), (cD, .double)]) [0, 1, 2, 3] rfl).app hK1
  generalize H1 = H at hP hS ⊢
  have hP : va_P (dC, dI) vwCl [(qm, .inl (cM, 12, .inr (.inr (.inr (.inr (fun _ => none)))))), (qt, .inl (cT, 4, .inr (.inr (.inr (.inr (fun _ => none)))))), (m0, .inr (12, [.int 0, .ref l1, .ref l2, .int 0, .int 0, .int 0, .long 0])), (l1, .inr (1, [.int 0, .ref a0, .int 0])), (l2, .inr (1, [.int 0, .ref a0, .int 0])), (qd, .inl (cD, 1, .inr (.inr (.inr (.inl (fun _ => 0)))))), (qo, .inl (cL, 1, .inr (.inl (vp_updL (fun _ => 0) ((0 : Int32).toNatClampNeg) 0))))] H := hP
  have hD : va_D A [(qm, .inl (cM, 12, .inr (.inr (.inr (.inr (fun _ => none)))))), (qt, .inl (cT, 4, .inr (.inr (.inr (.inr (fun _ => none)))))), (m0, .inr (12, [.int 0, .ref l1, .ref l2, .int 0, .int 0, .int 0, .long 0])), (l1, .inr (1, [.int 0, .ref a0, .int 0])), (l2, .inr (1, [.int 0, .ref a0, .int 0])), (qd, .inl (cD, 1, .inr (.inr (.inr (.inl (fun _ => 0)))))), (qo, .inl (cL, 1, .inr (.inl (vp_updL (fun _ => 0) ((0 : Int32).toNatClampNeg) 0))))] := hD
  have hK : va_K (dC, dI) vwCl [(cM, .object "Haltingale$Machine"), (cT, .object "Haltingale$Tag"), (cL, .long), (cD, .double), (cL, .long)] s := hK
  refine W.widen (k := 31) (n := 4324) (Nat.le_of_ble_eq_true rfl) (Nat.le_of_ble_eq_true rfl) ?_
  obtain rfl : r_3 = 0 := hw
  refine lv_istore (lv' := [(6, .int 0), (5, .int 0), (4, .ref qd), (3, .ref qo), (2, .ref m0), (1, .ref x0), (0, .ref b)]) hx hb dL_law_1526 hl (by decide) rfl (fun ls hl => ?_)
  refine lv_aload_n hx hb dL_law_1528 rfl (lv_at hl 4 rfl) ?_
  refine lv_aload_n hx hb dL_law_1529 rfl (lv_at hl 6 rfl) ?_
  refine lv_iload hx hb dL_law_1530 (lv_at hl 1 rfl) ?_
  refine lv_iconst (v := 1) hx hb dL_law_1532 (by decide) ?_
  refine lv_iadd hx hb dL_law_1533 ?_
  refine lv_topi (fun x_4 ex_4 => ?_)
  obtain rfl : x_4 = 1 := ex_4.trans (by decide)
  refine va_sld hx hb hX hbl hbA hS (by unfold vp_in; decide) dL_law_1534 ?_
  refine lv_topi (fun x_5 ex_5 => ?_)
  obtain rfl : x_5 = 2 := ex_5.trans (hp)
  have hPc := hP.sub (ws' := [(m0, .inr (12, [.int 0, .ref l1, .ref l2, .int 0, .int 0, .int 0, .long 0])), (l1, .inr (1, [.int 0, .ref a0, .int 0])), (l2, .inr (1, [.int 0, .ref a0, .int 0]))]) [2, 3, 4] rfl
  have hDc := hD.sub (ws' := [(m0, .inr (12, [.int 0, .ref l1, .ref l2, .int 0, .int 0, .int 0, .long 0])), (l1, .inr (1, [.int 0, .ref a0, .int 0])), (l2, .inr (1, [.int 0, .ref a0, .int 0]))]) [2, 3, 4] (by decide) rfl
  have hKc := hK.sub (tys' := []) [] rfl
  have hFc := va_free (wc := [(m0, .inr (12, [.int 0, .ref l1, .ref l2, .int 0, .int 0, .int 0, .long 0])), (l1, .inr (1, [.int 0, .ref a0, .int 0])), (l2, .inr (1, [.int 0, .ref a0, .int 0]))]) hD hS hA [2, 3, 4] rfl
  have hZc := ((hZ.kept hS.2.1).narrow hFc)
  refine va_calli (va_runV (As := [.int 2]) (rest := []) ⟨hx, hb, hml, hown, hts⟩ (c_X10_many_2 l hnt dC dI a0 m0 l1 l2 H.size ) (cwV 1 hts (goodIn_of _ (by decide +kernel)) rfl rfl rfl (by decide +kernel) ⟨Nat.le_of_ble_eq_true rfl, Nat.le_of_ble_eq_true rfl⟩) ⟨fun a U g mk q => by obtain ⟨q0, q1, qP, qK, qD, qZ⟩ := q; exact ⟨q0, q1, qP, va_K.moved (u := U) (U := U.calling g mk a) (Vm.Alike.refl U.vm) qK, qD, qZ.call⟩, va_recv hKc hPc (ci := 12) (q0 := 0) rfl rfl, fun U hU hW => ⟨rfl, by rw [hU], by rw [hU]; exact hPc, va_K.moved hW.alike hKc, hDc.weaken (fun _ _ _ _ => trivial), by rw [hU]; exact hZc.warm hW⟩⟩ rfl rfl hl.1 rfl (lv_room (Nat.le_of_ble_eq_true rfl)) dL_law_1535 ⟨Nat.le_of_ble_eq_true rfl, Nat.le_of_ble_eq_true rfl⟩) hS (fun q _ h => hFc q h) hFc (fun r_6 u t H1 locs ht hvm hw hB hz1 hk1 hS => ?_)
  obtain ⟨hP1, hK1, hD1⟩ := hB
  rw [ht] at hP1
  have hK1 := va_K.moved hvm.symm hK1
  obtain ⟨hP, hD⟩ := va_join (wr := [(qm, .inl (cM, 12, .inr (.inr (.inr (.inr (fun _ => none)))))), (qt, .inl (cT, 4, .inr (.inr (.inr (.inr (fun _ => none)))))), (qd, .inl (cD, 1, .inr (.inr (.inr (.inl (fun _ => 0)))))), (qo, .inl (cL, 1, .inr (.inl (vp_updL (fun _ => 0) ((0 : Int32).toNatClampNeg) 0))))]) (w1 := [(m0, .inr (12, [.int 0, .ref l1, .ref l2, .int 0, .int 0, .int 0, .long 0]))]) hP hD [2, 3, 4] [0, 1, 5, 6] rfl rfl (by decide) (by decide) hk1 hFc hP1 hD1
  have hK := (hK.sub (tys' := [(cM, .object "Haltingale$Machine"), (cT, .object "Haltingale$Tag"), (cL, .long), (cD, .double), (cL, .long)]) [0, 1, 2, 3, 4] rfl).app hK1
  generalize H1 = H at hP hS ⊢
  have hP : va_P (dC, dI) vwCl [(qm, .inl (cM, 12, .inr (.inr (.inr (.inr (fun _ => none)))))), (qt, .inl (cT, 4, .inr (.inr (.inr (.inr (fun _ => none)))))), (qd, .inl (cD, 1, .inr (.inr (.inr (.inl (fun _ => 0)))))), (qo, .inl (cL, 1, .inr (.inl (vp_updL (fun _ => 0) ((0 : Int32).toNatClampNeg) 0)))), (m0, .inr (12, [.int 0, .ref l1, .ref l2, .int 0, .int 0, .int 0, .long 0]))] H := hP
  have hD : va_D A [(qm, .inl (cM, 12, .inr (.inr (.inr (.inr (fun _ => none)))))), (qt, .inl (cT, 4, .inr (.inr (.inr (.inr (fun _ => none)))))), (qd, .inl (cD, 1, .inr (.inr (.inr (.inl (fun _ => 0)))))), (qo, .inl (cL, 1, .inr (.inl (vp_updL (fun _ => 0) ((0 : Int32).toNatClampNeg) 0)))), (m0, .inr (12, [.int 0, .ref l1, .ref l2, .int 0, .int 0, .int 0, .long 0]))] := hD
  have hK : va_K (dC, dI) vwCl [(cM, .object "Haltingale$Machine"), (cT, .object "Haltingale$Tag"), (cL, .long), (cD, .double), (cL, .long)] s := hK
  refine W.widen (k := 34) (n := 4344) (Nat.le_of_ble_eq_true rfl) (Nat.le_of_ble_eq_true rfl) ?_
  obtain rfl : r_6 = 0 := hw
  refine lv_istore (lv' := [(7, .int 0), (6, .int 0), (5, .int 0), (4, .ref qd), (3, .ref qo), (2, .ref m0), (1, .ref x0), (0, .ref b)]) hx hb dL_law_1538 hl (by decide) rfl (fun ls hl => ?_)
  refine lv_aload_n hx hb dL_law_1540 rfl (lv_at hl 5 rfl) ?_
  have hPc := hP.sub (ws' := [(m0, .inr (12, [.int 0, .ref l1, .ref l2, .int 0, .int 0, .int 0, .long 0]))]) [4] rfl
  have hDc := hD.sub (ws' := [(m0, .inr (12, [.int 0, .ref l1, .ref l2, .int 0, .int 0, .int 0, .long 0]))]) [4] (by decide) rfl
  have hKc := hK.sub (tys' := []) [] rfl
  have hFc := va_free (wc := [(m0, .inr (12, [.int 0, .ref l1, .ref l2, .int 0, .int 0, .int 0, .long 0]))]) hD hS hA [4] rfl
  have hZc := ((hZ.kept hS.2.1).narrow hFc)
  refine va_calli (va_runV (As := []) (rest := []) ⟨hx, hb, hml, hown, hts⟩ (c_X10_thrown l hnt dC dI a0 m0 l1 l2 0 H.size ) (cwV 0 hts (goodIn_of _ (by decide +kernel)) rfl rfl rfl (by decide +kernel) ⟨Nat.le_of_ble_eq_true rfl, Nat.le_of_ble_eq_true rfl⟩) ⟨fun a U g mk q => by obtain ⟨q0, q1, qP, qK, qD, qZ⟩ := q; exact ⟨q0, q1, qP, va_K.moved (u := U) (U := U.calling g mk a) (Vm.Alike.refl U.vm) qK, qD, qZ.call⟩, va_recv hKc hPc (ci := 12) (q0 := 0) rfl rfl, fun U hU hW => ⟨rfl, by rw [hU], by rw [hU]; exact hPc, va_K.moved hW.alike hKc, hDc.weaken (fun _ _ _ _ => trivial), by rw [hU]; exact hZc.warm hW⟩⟩ rfl rfl hl.1 rfl (lv_room (Nat.le_of_ble_eq_true rfl)) dL_law_1541 ⟨Nat.le_of_ble_eq_true rfl, Nat.le_of_ble_eq_true rfl⟩) hS (fun q _ h => hFc q h) hFc (fun r_7 u t H1 locs ht hvm hw hB hz1 hk1 hS => ?_)
  obtain ⟨hP1, hK1, hD1⟩ := hB
  rw [ht] at hP1
  have hK1 := va_K.moved hvm.symm hK1
  obtain ⟨hP, hD⟩ := va_join (wr := [(qm, .inl (cM, 12, .inr (.inr (.inr (.inr (fun _ => none)))))), (qt, .inl (cT, 4, .inr (.inr (.inr (.inr (fun _ => none)))))), (qd, .inl (cD, 1, .inr (.inr (.inr (.inl (fun _ => 0)))))), (qo, .inl (cL, 1, .inr (.inl (vp_updL (fun _ => 0) ((0 : Int32).toNatClampNeg) 0))))]) (w1 := []) hP hD [4] [0, 1, 2, 3] rfl rfl (by decide) (by decide) hk1 hFc hP1 hD1
  have hK := (hK.sub (tys' := [(cM, .object "Haltingale$Machine"), (cT, .object "Haltingale$Tag"), (cL, .long), (cD, .double), (cL, .long)]) [0, 1, 2, 3, 4] rfl).app hK1
  generalize H1 = H at hP hS ⊢
  have hP : va_P (dC, dI) vwCl [(qm, .inl (cM, 12, .inr (.inr (.inr (.inr (fun _ => none)))))), (qt, .inl (cT, 4, .inr (.inr (.inr (.inr (fun _ => none)))))), (qd, .inl (cD, 1, .inr (.inr (.inr (.inl (fun _ => 0)))))), (qo, .inl (cL, 1, .inr (.inl (vp_updL (fun _ => 0) ((0 : Int32).toNatClampNeg) 0))))] H := hP
  have hD : va_D A [(qm, .inl (cM, 12, .inr (.inr (.inr (.inr (fun _ => none)))))), (qt, .inl (cT, 4, .inr (.inr (.inr (.inr (fun _ => none)))))), (qd, .inl (cD, 1, .inr (.inr (.inr (.inl (fun _ => 0)))))), (qo, .inl (cL, 1, .inr (.inl (vp_updL (fun _ => 0) ((0 : Int32).toNatClampNeg) 0))))] := hD
  have hK : va_K (dC, dI) vwCl [(cM, .object "Haltingale$Machine"), (cT, .object "Haltingale$Tag"), (cL, .long), (cD, .double), (cL, .long)] s := hK
  refine W.widen (k := 34) (n := 4344) (Nat.le_of_ble_eq_true rfl) (Nat.le_of_ble_eq_true rfl) ?_
  obtain rfl : r_7 = 0 := hw
  refine lv_iload hx hb dL_law_1544 (lv_at hl 1 rfl) ?_
  refine lv_icmp_eq (tgt := 1551) hx hb dL_law_1546 (by decide) (fun c_8 => ?_) (fun c_8 => ?_)
  rotate_left
  · (first | exact absurd c_8 (by decide) | exact absurd (by decide) c_8)
  refine lv_iload hx hb dL_law_1551 (lv_at hl 1 rfl) ?_
  refine lv_if_ne (tgt := 1568) hx hb dL_law_1553 (by decide) (fun c_9 => ?_) (fun c_9 => ?_)
  · (first | exact absurd c_9 (by decide) | exact absurd (by decide) c_9)
  refine lv_aload_n hx hb dL_law_1556 rfl (lv_at hl 4 rfl) ?_
  refine lv_iconst (v := 0) hx hb dL_law_1557 (by decide) ?_
  refine va_lald hx hb hK hP 3 2 rfl rfl (by unfold vp_in; decide) dL_law_1558 ?_
  refine lv_topl (fun y_10 ey_10 => ?_)
  obtain rfl : y_10 = 0 := ey_10.trans (by decide +kernel)
  refine lv_iload hx hb dL_law_1559 (lv_at hl 0 rfl) ?_
  refine lv_i2l (v := 0) hx hb dL_law_1561 (by decide) ?_
  refine W.lcmp hx hb dL_law_1562 ?_
  refine lv_topi (fun x_11 ex_11 => ?_)
  obtain rfl : x_11 = 0 := ex_11.trans (by decide +kernel)
  refine lv_if_eq (tgt := 1568) hx hb dL_law_1563 (by decide) (fun c_12 => ?_) (fun c_12 => ?_)
  rotate_left
  · (first | exact absurd c_12 (by decide) | exact absurd (by decide) c_12)
  refine lv_goto (tgt := 1806) hx hb dL_law_1568 (by decide) ?_
  refine lv_iinc (v := 7) (lv' := [(5, .int 7), (7, .int 0), (6, .int 0), (4, .ref qd), (3, .ref qo), (2, .ref m0), (1, .ref x0), (0, .ref b)]) hx hb dL_law_1806 hl (k := 2) rfl (by decide) (by decide) rfl (fun ls hl => ?_)
  refine lv_goto (tgt := 28) hx hb dL_law_1809 (by decide) ?_
  refine lv_iload hx hb dL_law_28 (lv_at hl 0 rfl) ?_
  refine lv_aload_n hx hb dL_law_30 rfl (lv_at hl 7 rfl) ?_
  refine va_slen hx hb hX hbl hbA hS dL_law_31 ?_
  refine lv_topi (fun x_13 ex_13 => ?_)
  obtain rfl : x_13 = 7 := ex_13.trans (by decide)
  refine lv_bipush (v := 7) hx hb dL_law_32 (by decide) ?_
  refine lv_isub hx hb dL_law_34 ?_
  refine lv_topi (fun x_14 ex_14 => ?_)
  obtain rfl : x_14 = 0 := ex_14.trans (by decide)
  refine lv_icmp_gt (tgt := 1812) hx hb dL_law_35 (by decide) (fun c_15 => ?_) (fun c_15 => ?_)
  rotate_left
  · (first | exact absurd c_15 (by decide) | exact absurd (by decide) c_15)
  refine lv_iconst (v := 1) hx hb dL_law_1812 (by decide) ?_
  refine va_forget (fun q hq => hA2 _ (hS.2.2 q hq)) ?_
  refine W.widen (k := room_1.cells) (n := room_1.slots) (Nat.le_of_ble_eq_true rfl) (Nat.le_of_ble_eq_true rfl) ?_
  exact lw_ret0 hx hb hr hlocks dL_law_1813

set_option maxHeartbeats 4000000 in
set_option maxRecDepth 100000 in
/-- the law, case 17 -/
theorem law_17_3 {p : Program} {l : Launch} (hnt : l.stackTraces = false) {e : Env} {s : State} {m : MethodId} {below : List Frame} {meth : Method} {c : Code} {dC : Nat → ClassId} {dI : Nat → Nat → Nat} {a0 b : Nat} {xs : Nat → Int32} (C0 : lw_At p s m meth c b 7 xs) {A : Nat → Prop} (hA : ∀ q : Nat, s.heap.size ≤ q → A q) (hA2 : ∀ q : Nat, A q → s.heap.size ≤ q) (hZ : zB a0 A s s.heap) {x0 : Nat} {qm : Nat} {qt : Nat} {qw : Nat} {qc : Nat} {qb : Nat} {qg : Nat} {m0 : Nat} {l1 : Nat} {l2 : Nat} {qo : Nat} {qd : Nat} {cM : ClassId} {cT : ClassId} {cL : ClassId} {cD : ClassId} {H : Heap} {locs : List Loc} (hK : va_K (dC, dI) vwCl [(cM, .object "Haltingale$Machine"), (cT, .object "Haltingale$Tag"), (cL, .long), (cD, .double)] s) (hP : va_P (dC, dI) vwCl [(x0, .inr (9, [.ref qm, .ref qt, .ref qw, .ref qc, .ref qb, .ref qg, .int 0, .int 0, .int 0, .int 0, .int 0])), (qm, .inl (cM, 12, .inr (.inr (.inr (.inr (fun _ => none)))))), (qt, .inl (cT, 4, .inr (.inr (.inr (.inr (fun _ => none)))))), (m0, .inr (12, [.int 0, .ref l1, .ref l2, .int 0, .int 0, .int 0, .long 0])), (l1, .inr (1, [.int 0, .ref a0, .int 0])), (l2, .inr (1, [.int 0, .ref a0, .int 0])), (qo, .inl (cL, 1, .inr (.inl (fun _ => 0)))), (qd, .inl (cD, 1, .inr (.inr (.inr (.inl (fun _ => 0))))))] H) (hD : va_D A [(x0, .inr (9, [.ref qm, .ref qt, .ref qw, .ref qc, .ref qb, .ref qg, .int 0, .int 0, .int 0, .int 0, .int 0])), (qm, .inl (cM, 12, .inr (.inr (.inr (.inr (fun _ => none)))))), (qt, .inl (cT, 4, .inr (.inr (.inr (.inr (fun _ => none)))))), (m0, .inr (12, [.int 0, .ref l1, .ref l2, .int 0, .int 0, .int 0, .long 0])), (l1, .inr (1, [.int 0, .ref a0, .int 0])), (l2, .inr (1, [.int 0, .ref a0, .int 0])), (qo, .inl (cL, 1, .inr (.inl (fun _ => 0)))), (qd, .inl (cD, 1, .inr (.inr (.inr (.inl (fun _ => 0))))))]) (hS : va_S A s.heap H locs) {ls : Array Slot} (hl : lv_has ls 10 [(5, .int 0), (4, .ref qd), (3, .ref qo), (2, .ref m0), (1, .ref x0), (0, .ref b)]) (hp : xs ((1 : Int32).toNatClampNeg) = 3) : W p l e room_1 s m #[Value.ref b] below meth c H locs 31 4324 (lw_Z below #[Value.ref b] s) (F0 m 1515 ls []) := by
  obtain ⟨hx, hb, hr, hml, hown, hts0, hX, hbl, hlocks, hgv⟩ := C0
  have hts : ∀ w ∈ zs_law, w.before #[Value.ref b] s = true := fun w h => hts0 w (zs_law_in w h)
  have hbA : ¬ A b := fun h => absurd (hA2 b h) (Nat.not_le.mpr hbl)
  refine lv_aload_n hx hb dL_law_1515 rfl (lv_at hl 4 rfl) ?_
  refine lv_aload_n hx hb dL_law_1516 rfl (lv_at hl 5 rfl) ?_
  refine lv_iload hx hb dL_law_1517 (lv_at hl 0 rfl) ?_
  refine lv_iconst (v := 1) hx hb dL_law_1519 (by decide) ?_
  refine lv_iadd hx hb dL_law_1520 ?_
  refine lv_topi (fun x_1 ex_1 => ?_)
  obtain rfl : x_1 = 1 := ex_1.trans (by decide)
  refine va_sld hx hb hX hbl hbA hS (by unfold vp_in; decide) dL_law_1521 ?_
  refine lv_topi (fun x_2 ex_2 => ?_)
  obtain rfl : x_2 = 3 := ex_2.trans (hp)
  refine lv_aload_n hx hb dL_law_1522 rfl (lv_at hl 2 rfl) ?_
  have hPc := hP.sub (ws' := [(x0, .inr (9, [.ref qm, .ref qt, .ref qw, .ref qc, .ref qb, .ref qg, .int 0, .int 0, .int 0, .int 0, .int 0])), (qo, .inl (cL, 1, .inr (.inl (fun _ => 0))))]) [0, 6] rfl
  have hDc := hD.sub (ws' := [(x0, .inr (9, [.ref qm, .ref qt, .ref qw, .ref qc, .ref qb, .ref qg, .int 0, .int 0, .int 0, .int 0, .int 0])), (qo, .inl (cL, 1, .inr (.inl (fun _ => 0))))]) [0, 6] (by decide) rfl
  have hKc := hK.sub (tys' := [(cL, .long)]) [2] rfl
  have hFc := va_free (wc := [(x0, .inr (9, [.ref qm, .ref qt, .ref qw, .ref qc, .ref qb, .ref qg, .int 0, .int 0, .int 0, .int 0, .int 0])), (qo, .inl (cL, 1, .inr (.inl (fun _ => 0))))]) hD hS hA [0, 6] rfl
  have hZc := ((hZ.kept hS.2.1).narrow hFc)
  refine va_calli (vx_runSW (As := [.ref x0, .int 3, .ref qo]) (rest := []) ⟨hx, hb, hml, hown, hts⟩ (c_L_many_3 l hnt dC dI a0 x0 qm qt qw qc qb qg qo cL H.size ) (vx_cwSW 3 hts (goodIn_of _ (by decide +kernel)) rfl rfl rfl (by decide +kernel) ⟨Nat.le_of_ble_eq_true rfl, Nat.le_of_ble_eq_true rfl⟩) ⟨fun a U g mk q => by obtain ⟨q0, q1, qP, qK, qD, qZ⟩ := q; exact ⟨q0, q1, qP, va_K.moved (u := U) (U := U.calling g mk a) (Vm.Alike.refl U.vm) qK, qD, qZ.call⟩, fun U hU hW => ⟨rfl, by rw [hU], by rw [hU]; exact hPc, va_K.moved hW.alike hKc, hDc.weaken (fun _ _ _ _ => trivial), by rw [hU]; exact hZc.warm hW⟩⟩ rfl rfl hl.1 rfl (lv_room (Nat.le_of_ble_eq_true rfl)) dL_law_1523 ⟨Nat.le_of_ble_eq_true rfl, Nat.le_of_ble_eq_true rfl⟩) hS (fun q _ h => hFc q h) hFc (fun r_3 u t H1 locs ht hvm hw hB hz1 hk1 hS => ?_)
  obtain ⟨hP1, hK1, hD1⟩ := hB
  rw [ht] at hP1
  have hK1 := va_K.moved hvm.symm hK1
  obtain ⟨hP, hD⟩ := va_join (wr := [(qm, .inl (cM, 12, .inr (.inr (.inr (.inr (fun _ => none)))))), (qt, .inl (cT, 4, .inr (.inr (.inr (.inr (fun _ => none)))))), (m0, .inr (12, [.int 0, .ref l1, .ref l2, .int 0, .int 0, .int 0, .long 0])), (l1, .inr (1, [.int 0, .ref a0, .int 0])), (l2, .inr (1, [.int 0, .ref a0, .int 0])), (qd, .inl (cD, 1, .inr (.inr (.inr (.inl (fun _ => 0))))))]) (w1 := [(qo, .inl (cL, 1, .inr (.inl (vp_updL (fun _ => 0) ((0 : Int32).toNatClampNeg) 0))))]) hP hD [0, 6] [1, 2, 3, 4, 5, 7] rfl rfl (by decide) (by decide) hk1 hFc hP1 hD1
  have hK := (hK.sub (tys' := [(cM, .object "Haltingale$Machine"), (cT, .object "Haltingale$Tag"), (cL, .long), (cD, .double)]) [0, 1, 2, 3] rfl).app hK1
  generalize H1 = H at hP hS ⊢
  have hP : va_P (dC, dI) vwCl [(qm, .inl (cM, 12, .inr (.inr (.inr (.inr (fun _ => none)))))), (qt, .inl (cT, 4, .inr (.inr (.inr (.inr (fun _ => none)))))), (m0, .inr (12, [.int 0, .ref l1, .ref l2, .int 0, .int 0, .int 0, .long 0])), (l1, .inr (1, [.int 0, .ref a0, .int 0])), (l2, .inr (1, [.int 0, .ref a0, .int 0])), (qd, .inl (cD, 1, .inr (.inr (.inr (.inl (fun _ => 0)))))), (qo, .inl (cL, 1, .inr (.inl (vp_updL (fun _ => 0) ((0 : Int32).toNatClampNeg) 0))))] H := hP
  have hD : va_D A [(qm, .inl (cM, 12, .inr (.inr (.inr (.inr (fun _ => none)))))), (qt, .inl (cT, 4, .inr (.inr (.inr (.inr (fun _ => none)))))), (m0, .inr (12, [.int 0, .ref l1, .ref l2, .int 0, .int 0, .int 0, .long 0])), (l1, .inr (1, [.int 0, .ref a0, .int 0])), (l2, .inr (1, [.int 0, .ref a0, .int 0])), (qd, .inl (cD, 1, .inr (.inr (.inr (.inl (fun _ => 0)))))), (qo, .inl (cL, 1, .inr (.inl (vp_updL (fun _ => 0) ((0 : Int32).toNatClampNeg) 0))))] := hD
  have hK : va_K (dC, dI) vwCl [(cM, .object "Haltingale$Machine"), (cT, .object "Haltingale$Tag"), (cL, .long), (cD, .double), (cL, .long)] s := hK
  refine W.widen (k := 31) (n := 4324) (Nat.le_of_ble_eq_true rfl) (Nat.le_of_ble_eq_true rfl) ?_
  obtain rfl : r_3 = 0 := hw
  refine lv_istore (lv' := [(6, .int 0), (5, .int 0), (4, .ref qd), (3, .ref qo), (2, .ref m0), (1, .ref x0), (0, .ref b)]) hx hb dL_law_1526 hl (by decide) rfl (fun ls hl => ?_)
  refine lv_aload_n hx hb dL_law_1528 rfl (lv_at hl 4 rfl) ?_
  refine lv_aload_n hx hb dL_law_1529 rfl (lv_at hl 6 rfl) ?_
  refine lv_iload hx hb dL_law_1530 (lv_at hl 1 rfl) ?_
  refine lv_iconst (v := 1) hx hb dL_law_1532 (by decide) ?_
  refine lv_iadd hx hb dL_law_1533 ?_
  refine lv_topi (fun x_4 ex_4 => ?_)
  obtain rfl : x_4 = 1 := ex_4.trans (by decide)
  refine va_sld hx hb hX hbl hbA hS (by unfold vp_in; decide) dL_law_1534 ?_
  refine lv_topi (fun x_5 ex_5 => ?_)
  obtain rfl : x_5 = 3 := ex_5.trans (hp)
  have hPc := hP.sub (ws' := [(m0, .inr (12, [.int 0, .ref l1, .ref l2, .int 0, .int 0, .int 0, .long 0])), (l1, .inr (1, [.int 0, .ref a0, .int 0])), (l2, .inr (1, [.int 0, .ref a0, .int 0]))]) [2, 3, 4] rfl
  have hDc := hD.sub (ws' := [(m0, .inr (12, [.int 0, .ref l1, .ref l2, .int 0, .int 0, .int 0, .long 0])), (l1, .inr (1, [.int 0, .ref a0, .int 0])), (l2, .inr (1, [.int 0, .ref a0, .int 0]))]) [2, 3, 4] (by decide) rfl
  have hKc := hK.sub (tys' := []) [] rfl
  have hFc := va_free (wc := [(m0, .inr (12, [.int 0, .ref l1, .ref l2, .int 0, .int 0, .int 0, .long 0])), (l1, .inr (1, [.int 0, .ref a0, .int 0])), (l2, .inr (1, [.int 0, .ref a0, .int 0]))]) hD hS hA [2, 3, 4] rfl
  have hZc := ((hZ.kept hS.2.1).narrow hFc)
  refine va_calli (va_runV (As := [.int 3]) (rest := []) ⟨hx, hb, hml, hown, hts⟩ (c_X10_many_3 l hnt dC dI a0 m0 l1 l2 H.size ) (cwV 1 hts (goodIn_of _ (by decide +kernel)) rfl rfl rfl (by decide +kernel) ⟨Nat.le_of_ble_eq_true rfl, Nat.le_of_ble_eq_true rfl⟩) ⟨fun a U g mk q => by obtain ⟨q0, q1, qP, qK, qD, qZ⟩ := q; exact ⟨q0, q1, qP, va_K.moved (u := U) (U := U.calling g mk a) (Vm.Alike.refl U.vm) qK, qD, qZ.call⟩, va_recv hKc hPc (ci := 12) (q0 := 0) rfl rfl, fun U hU hW => ⟨rfl, by rw [hU], by rw [hU]; exact hPc, va_K.moved hW.alike hKc, hDc.weaken (fun _ _ _ _ => trivial), by rw [hU]; exact hZc.warm hW⟩⟩ rfl rfl hl.1 rfl (lv_room (Nat.le_of_ble_eq_true rfl)) dL_law_1535 ⟨Nat.le_of_ble_eq_true rfl, Nat.le_of_ble_eq_true rfl⟩) hS (fun q _ h => hFc q h) hFc (fun r_6 u t H1 locs ht hvm hw hB hz1 hk1 hS => ?_)
  obtain ⟨hP1, hK1, hD1⟩ := hB
  rw [ht] at hP1
  have hK1 := va_K.moved hvm.symm hK1
  obtain ⟨hP, hD⟩ := va_join (wr := [(qm, .inl (cM, 12, .inr (.inr (.inr (.inr (fun _ => none)))))), (qt, .inl (cT, 4, .inr (.inr (.inr (.inr (fun _ => none)))))), (qd, .inl (cD, 1, .inr (.inr (.inr (.inl (fun _ => 0)))))), (qo, .inl (cL, 1, .inr (.inl (vp_updL (fun _ => 0) ((0 : Int32).toNatClampNeg) 0))))]) (w1 := [(m0, .inr (12, [.int 0, .ref l1, .ref l2, .int 0, .int 0, .int 0, .long 0]))]) hP hD [2, 3, 4] [0, 1, 5, 6] rfl rfl (by decide) (by decide) hk1 hFc hP1 hD1
  have hK := (hK.sub (tys' := [(cM, .object "Haltingale$Machine"), (cT, .object "Haltingale$Tag"), (cL, .long), (cD, .double), (cL, .long)]) [0, 1, 2, 3, 4] rfl).app hK1
  generalize H1 = H at hP hS ⊢
  have hP : va_P (dC, dI) vwCl [(qm, .inl (cM, 12, .inr (.inr (.inr (.inr (fun _ => none)))))), (qt, .inl (cT, 4, .inr (.inr (.inr (.inr (fun _ => none)))))), (qd, .inl (cD, 1, .inr (.inr (.inr (.inl (fun _ => 0)))))), (qo, .inl (cL, 1, .inr (.inl (vp_updL (fun _ => 0) ((0 : Int32).toNatClampNeg) 0)))), (m0, .inr (12, [.int 0, .ref l1, .ref l2, .int 0, .int 0, .int 0, .long 0]))] H := hP
  have hD : va_D A [(qm, .inl (cM, 12, .inr (.inr (.inr (.inr (fun _ => none)))))), (qt, .inl (cT, 4, .inr (.inr (.inr (.inr (fun _ => none)))))), (qd, .inl (cD, 1, .inr (.inr (.inr (.inl (fun _ => 0)))))), (qo, .inl (cL, 1, .inr (.inl (vp_updL (fun _ => 0) ((0 : Int32).toNatClampNeg) 0)))), (m0, .inr (12, [.int 0, .ref l1, .ref l2, .int 0, .int 0, .int 0, .long 0]))] := hD
  have hK : va_K (dC, dI) vwCl [(cM, .object "Haltingale$Machine"), (cT, .object "Haltingale$Tag"), (cL, .long), (cD, .double), (cL, .long)] s := hK
  refine W.widen (k := 34) (n := 4344) (Nat.le_of_ble_eq_true rfl) (Nat.le_of_ble_eq_true rfl) ?_
  obtain rfl : r_6 = 0 := hw
  refine lv_istore (lv' := [(7, .int 0), (6, .int 0), (5, .int 0), (4, .ref qd), (3, .ref qo), (2, .ref m0), (1, .ref x0), (0, .ref b)]) hx hb dL_law_1538 hl (by decide) rfl (fun ls hl => ?_)
  refine lv_aload_n hx hb dL_law_1540 rfl (lv_at hl 5 rfl) ?_
  have hPc := hP.sub (ws' := [(m0, .inr (12, [.int 0, .ref l1, .ref l2, .int 0, .int 0, .int 0, .long 0]))]) [4] rfl
  have hDc := hD.sub (ws' := [(m0, .inr (12, [.int 0, .ref l1, .ref l2, .int 0, .int 0, .int 0, .long 0]))]) [4] (by decide) rfl
  have hKc := hK.sub (tys' := []) [] rfl
  have hFc := va_free (wc := [(m0, .inr (12, [.int 0, .ref l1, .ref l2, .int 0, .int 0, .int 0, .long 0]))]) hD hS hA [4] rfl
  have hZc := ((hZ.kept hS.2.1).narrow hFc)
  refine va_calli (va_runV (As := []) (rest := []) ⟨hx, hb, hml, hown, hts⟩ (c_X10_thrown l hnt dC dI a0 m0 l1 l2 0 H.size ) (cwV 0 hts (goodIn_of _ (by decide +kernel)) rfl rfl rfl (by decide +kernel) ⟨Nat.le_of_ble_eq_true rfl, Nat.le_of_ble_eq_true rfl⟩) ⟨fun a U g mk q => by obtain ⟨q0, q1, qP, qK, qD, qZ⟩ := q; exact ⟨q0, q1, qP, va_K.moved (u := U) (U := U.calling g mk a) (Vm.Alike.refl U.vm) qK, qD, qZ.call⟩, va_recv hKc hPc (ci := 12) (q0 := 0) rfl rfl, fun U hU hW => ⟨rfl, by rw [hU], by rw [hU]; exact hPc, va_K.moved hW.alike hKc, hDc.weaken (fun _ _ _ _ => trivial), by rw [hU]; exact hZc.warm hW⟩⟩ rfl rfl hl.1 rfl (lv_room (Nat.le_of_ble_eq_true rfl)) dL_law_1541 ⟨Nat.le_of_ble_eq_true rfl, Nat.le_of_ble_eq_true rfl⟩) hS (fun q _ h => hFc q h) hFc (fun r_7 u t H1 locs ht hvm hw hB hz1 hk1 hS => ?_)
  obtain ⟨hP1, hK1, hD1⟩ := hB
  rw [ht] at hP1
  have hK1 := va_K.moved hvm.symm hK1
  obtain ⟨hP, hD⟩ := va_join (wr := [(qm, .inl (cM, 12, .inr (.inr (.inr (.inr (fun _ => none)))))), (qt, .inl (cT, 4, .inr (.inr (.inr (.inr (fun _ => none)))))), (qd, .inl (cD, 1, .inr (.inr (.inr (.inl (fun _ => 0)))))), (qo, .inl (cL, 1, .inr (.inl (vp_updL (fun _ => 0) ((0 : Int32).toNatClampNeg) 0))))]) (w1 := []) hP hD [4] [0, 1, 2, 3] rfl rfl (by decide) (by decide) hk1 hFc hP1 hD1
  have hK := (hK.sub (tys' := [(cM, .object "Haltingale$Machine"), (cT, .object "Haltingale$Tag"), (cL, .long), (cD, .double), (cL, .long)]) [0, 1, 2, 3, 4] rfl).app hK1
  generalize H1 = H at hP hS ⊢
  have hP : va_P (dC, dI) vwCl [(qm, .inl (cM, 12, .inr (.inr (.inr (.inr (fun _ => none)))))), (qt, .inl (cT, 4, .inr (.inr (.inr (.inr (fun _ => none)))))), (qd, .inl (cD, 1, .inr (.inr (.inr (.inl (fun _ => 0)))))), (qo, .inl (cL, 1, .inr (.inl (vp_updL (fun _ => 0) ((0 : Int32).toNatClampNeg) 0))))] H := hP
  have hD : va_D A [(qm, .inl (cM, 12, .inr (.inr (.inr (.inr (fun _ => none)))))), (qt, .inl (cT, 4, .inr (.inr (.inr (.inr (fun _ => none)))))), (qd, .inl (cD, 1, .inr (.inr (.inr (.inl (fun _ => 0)))))), (qo, .inl (cL, 1, .inr (.inl (vp_updL (fun _ => 0) ((0 : Int32).toNatClampNeg) 0))))] := hD
  have hK : va_K (dC, dI) vwCl [(cM, .object "Haltingale$Machine"), (cT, .object "Haltingale$Tag"), (cL, .long), (cD, .double), (cL, .long)] s := hK
  refine W.widen (k := 34) (n := 4344) (Nat.le_of_ble_eq_true rfl) (Nat.le_of_ble_eq_true rfl) ?_
  obtain rfl : r_7 = 0 := hw
  refine lv_iload hx hb dL_law_1544 (lv_at hl 1 rfl) ?_
  refine lv_icmp_eq (tgt := 1551) hx hb dL_law_1546 (by decide) (fun c_8 => ?_) (fun c_8 => ?_)
  rotate_left
  · (first | exact absurd c_8 (by decide) | exact absurd (by decide) c_8)
  refine lv_iload hx hb dL_law_1551 (lv_at hl 1 rfl) ?_
  refine lv_if_ne (tgt := 1568) hx hb dL_law_1553 (by decide) (fun c_9 => ?_) (fun c_9 => ?_)
  · (first | exact absurd c_9 (by decide) | exact absurd (by decide) c_9)
  refine lv_aload_n hx hb dL_law_1556 rfl (lv_at hl 4 rfl) ?_
  refine lv_iconst (v := 0) hx hb dL_law_1557 (by decide) ?_
  refine va_lald hx hb hK hP 3 2 rfl rfl (by unfold vp_in; decide) dL_law_1558 ?_
  refine lv_topl (fun y_10 ey_10 => ?_)
  obtain rfl : y_10 = 0 := ey_10.trans (by decide +kernel)
  refine lv_iload hx hb dL_law_1559 (lv_at hl 0 rfl) ?_
  refine lv_i2l (v := 0) hx hb dL_law_1561 (by decide) ?_
  refine W.lcmp hx hb dL_law_1562 ?_
  refine lv_topi (fun x_11 ex_11 => ?_)
  obtain rfl : x_11 = 0 := ex_11.trans (by decide +kernel)
  refine lv_if_eq (tgt := 1568) hx hb dL_law_1563 (by decide) (fun c_12 => ?_) (fun c_12 => ?_)
  rotate_left
  · (first | exact absurd c_12 (by decide) | exact absurd (by decide) c_12)
  refine lv_goto (tgt := 1806) hx hb dL_law_1568 (by decide) ?_
  refine lv_iinc (v := 7) (lv' := [(5, .int 7), (7, .int 0), (6, .int 0), (4, .ref qd), (3, .ref qo), (2, .ref m0), (1, .ref x0), (0, .ref b)]) hx hb dL_law_1806 hl (k := 2) rfl (by decide) (by decide) rfl (fun ls hl => ?_)
  refine lv_goto (tgt := 28) hx hb dL_law_1809 (by decide) ?_
  refine lv_iload hx hb dL_law_28 (lv_at hl 0 rfl) ?_
  refine lv_aload_n hx hb dL_law_30 rfl (lv_at hl 7 rfl) ?_
  refine va_slen hx hb hX hbl hbA hS dL_law_31 ?_
  refine lv_topi (fun x_13 ex_13 => ?_)
  obtain rfl : x_13 = 7 := ex_13.trans (by decide)
  refine lv_bipush (v := 7) hx hb dL_law_32 (by decide) ?_
  refine lv_isub hx hb dL_law_34 ?_
  refine lv_topi (fun x_14 ex_14 => ?_)
  obtain rfl : x_14 = 0 := ex_14.trans (by decide)
  refine lv_icmp_gt (tgt := 1812) hx hb dL_law_35 (by decide) (fun c_15 => ?_) (fun c_15 => ?_)
  rotate_left
  · (first | exact absurd c_15 (by decide) | exact absurd (by decide) c_15)
  refine lv_iconst (v := 1) hx hb dL_law_1812 (by decide) ?_
  refine va_forget (fun q hq => hA2 _ (hS.2.2 q hq)) ?_
  refine W.widen (k := room_1.cells) (n := room_1.slots) (Nat.le_of_ble_eq_true rfl) (Nat.le_of_ble_eq_true rfl) ?_
  exact lw_ret0 hx hb hr hlocks dL_law_1813

set_option maxHeartbeats 4000000 in
set_option maxRecDepth 100000 in
/-- the law, case 17 -/
theorem law_17_4 {p : Program} {l : Launch} (hnt : l.stackTraces = false) {e : Env} {s : State} {m : MethodId} {below : List Frame} {meth : Method} {c : Code} {dC : Nat → ClassId} {dI : Nat → Nat → Nat} {a0 b : Nat} {xs : Nat → Int32} (C0 : lw_At p s m meth c b 7 xs) {A : Nat → Prop} (hA : ∀ q : Nat, s.heap.size ≤ q → A q) (hA2 : ∀ q : Nat, A q → s.heap.size ≤ q) (hZ : zB a0 A s s.heap) {x0 : Nat} {qm : Nat} {qt : Nat} {qw : Nat} {qc : Nat} {qb : Nat} {qg : Nat} {m0 : Nat} {l1 : Nat} {l2 : Nat} {qo : Nat} {qd : Nat} {cM : ClassId} {cT : ClassId} {cL : ClassId} {cD : ClassId} {H : Heap} {locs : List Loc} (hK : va_K (dC, dI) vwCl [(cM, .object "Haltingale$Machine"), (cT, .object "Haltingale$Tag"), (cL, .long), (cD, .double)] s) (hP : va_P (dC, dI) vwCl [(x0, .inr (9, [.ref qm, .ref qt, .ref qw, .ref qc, .ref qb, .ref qg, .int 0, .int 0, .int 0, .int 0, .int 0])), (qm, .inl (cM, 12, .inr (.inr (.inr (.inr (fun _ => none)))))), (qt, .inl (cT, 4, .inr (.inr (.inr (.inr (fun _ => none)))))), (m0, .inr (12, [.int 0, .ref l1, .ref l2, .int 0, .int 0, .int 0, .long 0])), (l1, .inr (1, [.int 0, .ref a0, .int 0])), (l2, .inr (1, [.int 0, .ref a0, .int 0])), (qo, .inl (cL, 1, .inr (.inl (fun _ => 0)))), (qd, .inl (cD, 1, .inr (.inr (.inr (.inl (fun _ => 0))))))] H) (hD : va_D A [(x0, .inr (9, [.ref qm, .ref qt, .ref qw, .ref qc, .ref qb, .ref qg, .int 0, .int 0, .int 0, .int 0, .int 0])), (qm, .inl (cM, 12, .inr (.inr (.inr (.inr (fun _ => none)))))), (qt, .inl (cT, 4, .inr (.inr (.inr (.inr (fun _ => none)))))), (m0, .inr (12, [.int 0, .ref l1, .ref l2, .int 0, .int 0, .int 0, .long 0])), (l1, .inr (1, [.int 0, .ref a0, .int 0])), (l2, .inr (1, [.int 0, .ref a0, .int 0])), (qo, .inl (cL, 1, .inr (.inl (fun _ => 0)))), (qd, .inl (cD, 1, .inr (.inr (.inr (.inl (fun _ => 0))))))]) (hS : va_S A s.heap H locs) {ls : Array Slot} (hl : lv_has ls 10 [(5, .int 0), (4, .ref qd), (3, .ref qo), (2, .ref m0), (1, .ref x0), (0, .ref b)]) (hp : xs ((1 : Int32).toNatClampNeg) = 4) : W p l e room_1 s m #[Value.ref b] below meth c H locs 31 4324 (lw_Z below #[Value.ref b] s) (F0 m 1515 ls []) := by
  obtain ⟨hx, hb, hr, hml, hown, hts0, hX, hbl, hlocks, hgv⟩ := C0
  have hts : ∀ w ∈ zs_law, w.before #[Value.ref b] s = true := fun w h => hts0 w (zs_law_in w h)
  have hbA : ¬ A b := fun h => absurd (hA2 b h) (Nat.not_le.mpr hbl)
  refine lv_aload_n hx hb dL_law_1515 rfl (lv_at hl 4 rfl) ?_
  refine lv_aload_n hx hb dL_law_1516 rfl (lv_at hl 5 rfl) ?_
  refine lv_iload hx hb dL_law_1517 (lv_at hl 0 rfl) ?_
  refine lv_iconst (v := 1) hx hb dL_law_1519 (by decide) ?_
  refine lv_iadd hx hb dL_law_1520 ?_
  refine lv_topi (fun x_1 ex_1 => ?_)
  obtain rfl : x_1 = 1 := ex_1.trans (by decide)
  refine va_sld hx hb hX hbl hbA hS (by unfold vp_in; decide) dL_law_1521 ?_
  refine lv_topi (fun x_2 ex_2 => ?_)
  obtain rfl : x_2 = 4 := ex_2.trans (hp)
  refine lv_aload_n hx hb dL_law_1522 rfl (lv_at hl 2 rfl) ?_
  have hPc := hP.sub (ws' := [(x0, .inr (9, [.ref qm, .ref qt, .ref qw, .ref qc, .ref qb, .ref qg, .int 0, .int 0, .int 0, .int 0, .int 0])), (qo, .inl (cL, 1, .inr (.inl (fun _ => 0))))]) [0, 6] rfl
  have hDc := hD.sub (ws' := [(x0, .inr (9, [.ref qm, .ref qt, .ref qw, .ref qc, .ref qb, .ref qg, .int 0, .int 0, .int 0, .int 0, .int 0])), (qo, .inl (cL, 1, .inr (.inl (fun _ => 0))))]) [0, 6] (by decide) rfl
  have hKc := hK.sub (tys' := [(cL, .long)]) [2] rfl
  have hFc := va_free (wc := [(x0, .inr (9, [.ref qm, .ref qt, .ref qw, .ref qc, .ref qb, .ref qg, .int 0, .int 0, .int 0, .int 0, .int 0])), (qo, .inl (cL, 1, .inr (.inl (fun _ => 0))))]) hD hS hA [0, 6] rfl
  have hZc := ((hZ.kept hS.2.1).narrow hFc)
  refine va_calli (vx_runSW (As := [.ref x0, .int 4, .ref qo]) (rest := []) ⟨hx, hb, hml, hown, hts⟩ (c_L_many_4 l hnt dC dI a0 x0 qm qt qw qc qb qg qo cL H.size ) (vx_cwSW 3 hts (goodIn_of _ (by decide +kernel)) rfl rfl rfl (by decide +kernel) ⟨Nat.le_of_ble_eq_true rfl, Nat.le_of_ble_eq_true rfl⟩) ⟨fun a U g mk q => by obtain ⟨q0, q1, qP, qK, qD, qZ⟩ := q; exact ⟨q0, q1, qP, va_K.moved (u := U) (U := U.calling g mk a) (Vm.Alike.refl U.vm) qK, qD, qZ.call⟩, fun U hU hW => ⟨rfl, by rw [hU], by rw [hU]; exact hPc, va_K.moved hW.alike hKc, hDc.weaken (fun _ _ _ _ => trivial), by rw [hU]; exact hZc.warm hW⟩⟩ rfl rfl hl.1 rfl (lv_room (Nat.le_of_ble_eq_true rfl)) dL_law_1523 ⟨Nat.le_of_ble_eq_true rfl, Nat.le_of_ble_eq_true rfl⟩) hS (fun q _ h => hFc q h) hFc (fun r_3 u t H1 locs ht hvm hw hB hz1 hk1 hS => ?_)
  obtain ⟨hP1, hK1, hD1⟩ := hB
  rw [ht] at hP1
  have hK1 := va_K.moved hvm.symm hK1
  obtain ⟨hP, hD⟩ := va_join (wr := [(qm, .inl (cM, 12, .inr (.inr (.inr (.inr (fun _ => none)))))), (qt, .inl (cT, 4, .inr (.inr (.inr (.inr (fun _ => none)))))), (m0, .inr (12, [.int 0, .ref l1, .ref l2, .int 0, .int 0, .int 0, .long 0])), (l1, .inr (1, [.int 0, .ref a0, .int 0])), (l2, .inr (1, [.int 0, .ref a0, .int 0])), (qd, .inl (cD, 1, .inr (.inr (.inr (.inl (fun _ => 0))))))]) (w1 := [(qo, .inl (cL, 1, .inr (.inl (vp_updL (fun _ => 0) ((0 : Int32).toNatClampNeg) 0))))]) hP hD [0, 6] [1, 2, 3, 4, 5, 7] rfl rfl (by decide) (by decide) hk1 hFc hP1 hD1
  have hK := (hK.sub (tys' := [(cM, .object "Haltingale$Machine"), (cT, .object "Haltingale$Tag"), (cL, .long), (cD, .double)]) [0, 1, 2, 3] rfl).app hK1
  generalize H1 = H at hP hS ⊢
  have hP : va_P (dC, dI) vwCl [(qm, .inl (cM, 12, .inr (.inr (.inr (.inr (fun _ => none)))))), (qt, .inl (cT, 4, .inr (.inr (.inr (.inr (fun _ => none)))))), (m0, .inr (12, [.int 0, .ref l1, .ref l2, .int 0, .int 0, .int 0, .long 0])), (l1, .inr (1, [.int 0, .ref a0, .int 0])), (l2, .inr (1, [.int 0, .ref a0, .int 0])), (qd, .inl (cD, 1, .inr (.inr (.inr (.inl (fun _ => 0)))))), (qo, .inl (cL, 1, .inr (.inl (vp_updL (fun _ => 0) ((0 : Int32).toNatClampNeg) 0))))] H := hP
  have hD : va_D A [(qm, .inl (cM, 12, .inr (.inr (.inr (.inr (fun _ => none)))))), (qt, .inl (cT, 4, .inr (.inr (.inr (.inr (fun _ => none)))))), (m0, .inr (12, [.int 0, .ref l1, .ref l2, .int 0, .int 0, .int 0, .long 0])), (l1, .inr (1, [.int 0, .ref a0, .int 0])), (l2, .inr (1, [.int 0, .ref a0, .int 0])), (qd, .inl (cD, 1, .inr (.inr (.inr (.inl (fun _ => 0)))))), (qo, .inl (cL, 1, .inr (.inl (vp_updL (fun _ => 0) ((0 : Int32).toNatClampNeg) 0))))] := hD
  have hK : va_K (dC, dI) vwCl [(cM, .object "Haltingale$Machine"), (cT, .object "Haltingale$Tag"), (cL, .long), (cD, .double), (cL, .long)] s := hK
  refine W.widen (k := 31) (n := 4324) (Nat.le_of_ble_eq_true rfl) (Nat.le_of_ble_eq_true rfl) ?_
  obtain rfl : r_3 = 0 := hw
  refine lv_istore (lv' := [(6, .int 0), (5, .int 0), (4, .ref qd), (3, .ref qo), (2, .ref m0), (1, .ref x0), (0, .ref b)]) hx hb dL_law_1526 hl (by decide) rfl (fun ls hl => ?_)
  refine lv_aload_n hx hb dL_law_1528 rfl (lv_at hl 4 rfl) ?_
  refine lv_aload_n hx hb dL_law_1529 rfl (lv_at hl 6 rfl) ?_
  refine lv_iload hx hb dL_law_1530 (lv_at hl 1 rfl) ?_
  refine lv_iconst (v := 1) hx hb dL_law_1532 (by decide) ?_
  refine lv_iadd hx hb dL_law_1533 ?_
  refine lv_topi (fun x_4 ex_4 => ?_)
  obtain rfl : x_4 = 1 := ex_4.trans (by decide)
  refine va_sld hx hb hX hbl hbA hS (by unfold vp_in; decide) dL_law_1534 ?_
  refine lv_topi (fun x_5 ex_5 => ?_)
  obtain rfl : x_5 = 4 := ex_5.trans (hp)
  have hPc := hP.sub (ws' := [(m0, .inr (12, [.int 0, .ref l1, .ref l2, .int 0, .int 0, .int 0, .long 0])), (l1, .inr (1, [.int 0, .ref a0, .int 0])), (l2, .inr (1, [.int 0, .ref a0, .int 0]))]) [2, 3, 4] rfl
  have hDc := hD.sub (ws' := [(m0, .inr (12, [.int 0, .ref l1, .ref l2, .int 0, .int 0, .int 0, .long 0])), (l1, .inr (1, [.int 0, .ref a0, .int 0])), (l2, .inr (1, [.int 0, .ref a0, .int 0]))]) [2, 3, 4] (by decide) rfl
  have hKc := hK.sub (tys' := []) [] rfl
  have hFc := va_free (wc := [(m0, .inr (12, [.int 0, .ref l1, .ref l2, .int 0, .int 0, .int 0, .long 0])), (l1, .inr (1, [.int 0, .ref a0, .int 0])), (l2, .inr (1, [.int 0, .ref a0, .int 0]))]) hD hS hA [2, 3, 4] rfl
  have hZc := ((hZ.kept hS.2.1).narrow hFc)
  refine va_calli (va_runV (As := [.int 4]) (rest := []) ⟨hx, hb, hml, hown, hts⟩ (c_X10_many_4 l hnt dC dI a0 m0 l1 l2 H.size ) (cwV 1 hts (goodIn_of _ (by decide +kernel)) rfl rfl rfl (by decide +kernel) ⟨Nat.le_of_ble_eq_true rfl, Nat.le_of_ble_eq_true rfl⟩) ⟨fun a U g mk q => by obtain ⟨q0, q1, qP, qK, qD, qZ⟩ := q; exact ⟨q0, q1, qP, va_K.moved (u := U) (U := U.calling g mk a) (Vm.Alike.refl U.vm) qK, qD, qZ.call⟩, va_recv hKc hPc (ci := 12) (q0 := 0) rfl rfl, fun U hU hW => ⟨rfl, by rw [hU], by rw [hU]; exact hPc, va_K.moved hW.alike hKc, hDc.weaken (fun _ _ _ _ => trivial), by rw [hU]; exact hZc.warm hW⟩⟩ rfl rfl hl.1 rfl (lv_room (Nat.le_of_ble_eq_true rfl)) dL_law_1535 ⟨Nat.le_of_ble_eq_true rfl, Nat.le_of_ble_eq_true rfl⟩) hS (fun q _ h => hFc q h) hFc (fun r_6 u t H1 locs ht hvm hw hB hz1 hk1 hS => ?_)
  obtain ⟨hP1, hK1, hD1⟩ := hB
  rw [ht] at hP1
  have hK1 := va_K.moved hvm.symm hK1
  obtain ⟨hP, hD⟩ := va_join (wr := [(qm, .inl (cM, 12, .inr (.inr (.inr (.inr (fun _ => none)))))), (qt, .inl (cT, 4, .inr (.inr (.inr (.inr (fun _ => none)))))), (qd, .inl (cD, 1, .inr (.inr (.inr (.inl (fun _ => 0)))))), (qo, .inl (cL, 1, .inr (.inl (vp_updL (fun _ => 0) ((0 : Int32).toNatClampNeg) 0))))]) (w1 := [(m0, .inr (12, [.int 0, .ref l1, .ref l2, .int 0, .int 0, .int 0, .long 0]))]) hP hD [2, 3, 4] [0, 1, 5, 6] rfl rfl (by decide) (by decide) hk1 hFc hP1 hD1
  have hK := (hK.sub (tys' := [(cM, .object "Haltingale$Machine"), (cT, .object "Haltingale$Tag"), (cL, .long), (cD, .double), (cL, .long)]) [0, 1, 2, 3, 4] rfl).app hK1
  generalize H1 = H at hP hS ⊢
  have hP : va_P (dC, dI) vwCl [(qm, .inl (cM, 12, .inr (.inr (.inr (.inr (fun _ => none)))))), (qt, .inl (cT, 4, .inr (.inr (.inr (.inr (fun _ => none)))))), (qd, .inl (cD, 1, .inr (.inr (.inr (.inl (fun _ => 0)))))), (qo, .inl (cL, 1, .inr (.inl (vp_updL (fun _ => 0) ((0 : Int32).toNatClampNeg) 0)))), (m0, .inr (12, [.int 0, .ref l1, .ref l2, .int 0, .int 0, .int 0, .long 0]))] H := hP
  have hD : va_D A [(qm, .inl (cM, 12, .inr (.inr (.inr (.inr (fun _ => none)))))), (qt, .inl (cT, 4, .inr (.inr (.inr (.inr (fun _ => none)))))), (qd, .inl (cD, 1, .inr (.inr (.inr (.inl (fun _ => 0)))))), (qo, .inl (cL, 1, .inr (.inl (vp_updL (fun _ => 0) ((0 : Int32).toNatClampNeg) 0)))), (m0, .inr (12, [.int 0, .ref l1, .ref l2, .int 0, .int 0, .int 0, .long 0]))] := hD
  have hK : va_K (dC, dI) vwCl [(cM, .object "Haltingale$Machine"), (cT, .object "Haltingale$Tag"), (cL, .long), (cD, .double), (cL, .long)] s := hK
  refine W.widen (k := 34) (n := 4344) (Nat.le_of_ble_eq_true rfl) (Nat.le_of_ble_eq_true rfl) ?_
  obtain rfl : r_6 = 0 := hw
  refine lv_istore (lv' := [(7, .int 0), (6, .int 0), (5, .int 0), (4, .ref qd), (3, .ref qo), (2, .ref m0), (1, .ref x0), (0, .ref b)]) hx hb dL_law_1538 hl (by decide) rfl (fun ls hl => ?_)
  refine lv_aload_n hx hb dL_law_1540 rfl (lv_at hl 5 rfl) ?_
  have hPc := hP.sub (ws' := [(m0, .inr (12, [.int 0, .ref l1, .ref l2, .int 0, .int 0, .int 0, .long 0]))]) [4] rfl
  have hDc := hD.sub (ws' := [(m0, .inr (12, [.int 0, .ref l1, .ref l2, .int 0, .int 0, .int 0, .long 0]))]) [4] (by decide) rfl
  have hKc := hK.sub (tys' := []) [] rfl
  have hFc := va_free (wc := [(m0, .inr (12, [.int 0, .ref l1, .ref l2, .int 0, .int 0, .int 0, .long 0]))]) hD hS hA [4] rfl
  have hZc := ((hZ.kept hS.2.1).narrow hFc)
  refine va_calli (va_runV (As := []) (rest := []) ⟨hx, hb, hml, hown, hts⟩ (c_X10_thrown l hnt dC dI a0 m0 l1 l2 0 H.size ) (cwV 0 hts (goodIn_of _ (by decide +kernel)) rfl rfl rfl (by decide +kernel) ⟨Nat.le_of_ble_eq_true rfl, Nat.le_of_ble_eq_true rfl⟩) ⟨fun a U g mk q => by obtain ⟨q0, q1, qP, qK, qD, qZ⟩ := q; exact ⟨q0, q1, qP, va_K.moved (u := U) (U := U.calling g mk a) (Vm.Alike.refl U.vm) qK, qD, qZ.call⟩, va_recv hKc hPc (ci := 12) (q0 := 0) rfl rfl, fun U hU hW => ⟨rfl, by rw [hU], by rw [hU]; exact hPc, va_K.moved hW.alike hKc, hDc.weaken (fun _ _ _ _ => trivial), by rw [hU]; exact hZc.warm hW⟩⟩ rfl rfl hl.1 rfl (lv_room (Nat.le_of_ble_eq_true rfl)) dL_law_1541 ⟨Nat.le_of_ble_eq_true rfl, Nat.le_of_ble_eq_true rfl⟩) hS (fun q _ h => hFc q h) hFc (fun r_7 u t H1 locs ht hvm hw hB hz1 hk1 hS => ?_)
  obtain ⟨hP1, hK1, hD1⟩ := hB
  rw [ht] at hP1
  have hK1 := va_K.moved hvm.symm hK1
  obtain ⟨hP, hD⟩ := va_join (wr := [(qm, .inl (cM, 12, .inr (.inr (.inr (.inr (fun _ => none)))))), (qt, .inl (cT, 4, .inr (.inr (.inr (.inr (fun _ => none)))))), (qd, .inl (cD, 1, .inr (.inr (.inr (.inl (fun _ => 0)))))), (qo, .inl (cL, 1, .inr (.inl (vp_updL (fun _ => 0) ((0 : Int32).toNatClampNeg) 0))))]) (w1 := []) hP hD [4] [0, 1, 2, 3] rfl rfl (by decide) (by decide) hk1 hFc hP1 hD1
  have hK := (hK.sub (tys' := [(cM, .object "Haltingale$Machine"), (cT, .object "Haltingale$Tag"), (cL, .long), (cD, .double), (cL, .long)]) [0, 1, 2, 3, 4] rfl).app hK1
  generalize H1 = H at hP hS ⊢
  have hP : va_P (dC, dI) vwCl [(qm, .inl (cM, 12, .inr (.inr (.inr (.inr (fun _ => none)))))), (qt, .inl (cT, 4, .inr (.inr (.inr (.inr (fun _ => none)))))), (qd, .inl (cD, 1, .inr (.inr (.inr (.inl (fun _ => 0)))))), (qo, .inl (cL, 1, .inr (.inl (vp_updL (fun _ => 0) ((0 : Int32).toNatClampNeg) 0))))] H := hP
  have hD : va_D A [(qm, .inl (cM, 12, .inr (.inr (.inr (.inr (fun _ => none)))))), (qt, .inl (cT, 4, .inr (.inr (.inr (.inr (fun _ => none)))))), (qd, .inl (cD, 1, .inr (.inr (.inr (.inl (fun _ => 0)))))), (qo, .inl (cL, 1, .inr (.inl (vp_updL (fun _ => 0) ((0 : Int32).toNatClampNeg) 0))))] := hD
  have hK : va_K (dC, dI) vwCl [(cM, .object "Haltingale$Machine"), (cT, .object "Haltingale$Tag"), (cL, .long), (cD, .double), (cL, .long)] s := hK
  refine W.widen (k := 34) (n := 4344) (Nat.le_of_ble_eq_true rfl) (Nat.le_of_ble_eq_true rfl) ?_
  obtain rfl : r_7 = 0 := hw
  refine lv_iload hx hb dL_law_1544 (lv_at hl 1 rfl) ?_
  refine lv_icmp_eq (tgt := 1551) hx hb dL_law_1546 (by decide) (fun c_8 => ?_) (fun c_8 => ?_)
  rotate_left
  · (first | exact absurd c_8 (by decide) | exact absurd (by decide) c_8)
  refine lv_iload hx hb dL_law_1551 (lv_at hl 1 rfl) ?_
  refine lv_if_ne (tgt := 1568) hx hb dL_law_1553 (by decide) (fun c_9 => ?_) (fun c_9 => ?_)
  · (first | exact absurd c_9 (by decide) | exact absurd (by decide) c_9)
  refine lv_aload_n hx hb dL_law_1556 rfl (lv_at hl 4 rfl) ?_
  refine lv_iconst (v := 0) hx hb dL_law_1557 (by decide) ?_
  refine va_lald hx hb hK hP 3 2 rfl rfl (by unfold vp_in; decide) dL_law_1558 ?_
  refine lv_topl (fun y_10 ey_10 => ?_)
  obtain rfl : y_10 = 0 := ey_10.trans (by decide +kernel)
  refine lv_iload hx hb dL_law_1559 (lv_at hl 0 rfl) ?_
  refine lv_i2l (v := 0) hx hb dL_law_1561 (by decide) ?_
  refine W.lcmp hx hb dL_law_1562 ?_
  refine lv_topi (fun x_11 ex_11 => ?_)
  obtain rfl : x_11 = 0 := ex_11.trans (by decide +kernel)
  refine lv_if_eq (tgt := 1568) hx hb dL_law_1563 (by decide) (fun c_12 => ?_) (fun c_12 => ?_)
  rotate_left
  · (first | exact absurd c_12 (by decide) | exact absurd (by decide) c_12)
  refine lv_goto (tgt := 1806) hx hb dL_law_1568 (by decide) ?_
  refine lv_iinc (v := 7) (lv' := [(5, .int 7), (7, .int 0), (6, .int 0), (4, .ref qd), (3, .ref qo), (2, .ref m0), (1, .ref x0), (0, .ref b)]) hx hb dL_law_1806 hl (k := 2) rfl (by decide) (by decide) rfl (fun ls hl => ?_)
  refine lv_goto (tgt := 28) hx hb dL_law_1809 (by decide) ?_
  refine lv_iload hx hb dL_law_28 (lv_at hl 0 rfl) ?_
  refine lv_aload_n hx hb dL_law_30 rfl (lv_at hl 7 rfl) ?_
  refine va_slen hx hb hX hbl hbA hS dL_law_31 ?_
  refine lv_topi (fun x_13 ex_13 => ?_)
  obtain rfl : x_13 = 7 := ex_13.trans (by decide)
  refine lv_bipush (v := 7) hx hb dL_law_32 (by decide) ?_
  refine lv_isub hx hb dL_law_34 ?_
  refine lv_topi (fun x_14 ex_14 => ?_)
  obtain rfl : x_14 = 0 := ex_14.trans (by decide)
  refine lv_icmp_gt (tgt := 1812) hx hb dL_law_35 (by decide) (fun c_15 => ?_) (fun c_15 => ?_)
  rotate_left
  · (first | exact absurd c_15 (by decide) | exact absurd (by decide) c_15)
  refine lv_iconst (v := 1) hx hb dL_law_1812 (by decide) ?_
  refine va_forget (fun q hq => hA2 _ (hS.2.2 q hq)) ?_
  refine W.widen (k := room_1.cells) (n := room_1.slots) (Nat.le_of_ble_eq_true rfl) (Nat.le_of_ble_eq_true rfl) ?_
  exact lw_ret0 hx hb hr hlocks dL_law_1813

set_option maxHeartbeats 4000000 in
set_option maxRecDepth 100000 in
/-- the law, case 17 -/
theorem law_17_5 {p : Program} {l : Launch} (hnt : l.stackTraces = false) {e : Env} {s : State} {m : MethodId} {below : List Frame} {meth : Method} {c : Code} {dC : Nat → ClassId} {dI : Nat → Nat → Nat} {a0 b : Nat} {xs : Nat → Int32} (C0 : lw_At p s m meth c b 7 xs) {A : Nat → Prop} (hA : ∀ q : Nat, s.heap.size ≤ q → A q) (hA2 : ∀ q : Nat, A q → s.heap.size ≤ q) (hZ : zB a0 A s s.heap) {x0 : Nat} {qm : Nat} {qt : Nat} {qw : Nat} {qc : Nat} {qb : Nat} {qg : Nat} {m0 : Nat} {l1 : Nat} {l2 : Nat} {qo : Nat} {qd : Nat} {cM : ClassId} {cT : ClassId} {cL : ClassId} {cD : ClassId} {H : Heap} {locs : List Loc} (hK : va_K (dC, dI) vwCl [(cM, .object "Haltingale$Machine"), (cT, .object "Haltingale$Tag"), (cL, .long), (cD, .double)] s) (hP : va_P (dC, dI) vwCl [(x0, .inr (9, [.ref qm, .ref qt, .ref qw, .ref qc, .ref qb, .ref qg, .int 0, .int 0, .int 0, .int 0, .int 0])), (qm, .inl (cM, 12, .inr (.inr (.inr (.inr (fun _ => none)))))), (qt, .inl (cT, 4, .inr (.inr (.inr (.inr (fun _ => none)))))), (m0, .inr (12, [.int 0, .ref l1, .ref l2, .int 0, .int 0, .int 0, .long 0])), (l1, .inr (1, [.int 0, .ref a0, .int 0])), (l2, .inr (1, [.int 0, .ref a0, .int 0])), (qo, .inl (cL, 1, .inr (.inl (fun _ => 0)))), (qd, .inl (cD, 1, .inr (.inr (.inr (.inl (fun _ => 0))))))] H) (hD : va_D A [(x0, .inr (9, [.ref qm, .ref qt, .ref qw, .ref qc, .ref qb, .ref qg, .int 0, .int 0, .int 0, .int 0, .int 0])), (qm, .inl (cM, 12, .inr (.inr (.inr (.inr (fun _ => none)))))), (qt, .inl (cT, 4, .inr (.inr (.inr (.inr (fun _ => none)))))), (m0, .inr (12, [.int 0, .ref l1, .ref l2, .int 0, .int 0, .int 0, .long 0])), (l1, .inr (1, [.int 0, .ref a0, .int 0])), (l2, .inr (1, [.int 0, .ref a0, .int 0])), (qo, .inl (cL, 1, .inr (.inl (fun _ => 0)))), (qd, .inl (cD, 1, .inr (.inr (.inr (.inl (fun _ => 0))))))]) (hS : va_S A s.heap H locs) {ls : Array Slot} (hl : lv_has ls 10 [(5, .int 0), (4, .ref qd), (3, .ref qo), (2, .ref m0), (1, .ref x0), (0, .ref b)]) (hp : xs ((1 : Int32).toNatClampNeg) = 5) : W p l e room_1 s m #[Value.ref b] below meth c H locs 31 4324 (lw_Z below #[Value.ref b] s) (F0 m 1515 ls []) := by
  obtain ⟨hx, hb, hr, hml, hown, hts0, hX, hbl, hlocks, hgv⟩ := C0
  have hts : ∀ w ∈ zs_law, w.before #[Value.ref b] s = true := fun w h => hts0 w (zs_law_in w h)
  have hbA : ¬ A b := fun h => absurd (hA2 b h) (Nat.not_le.mpr hbl)
  refine lv_aload_n hx hb dL_law_1515 rfl (lv_at hl 4 rfl) ?_
  refine lv_aload_n hx hb dL_law_1516 rfl (lv_at hl 5 rfl) ?_
  refine lv_iload hx hb dL_law_1517 (lv_at hl 0 rfl) ?_
  refine lv_iconst (v := 1) hx hb dL_law_1519 (by decide) ?_
  refine lv_iadd hx hb dL_law_1520 ?_
  refine lv_topi (fun x_1 ex_1 => ?_)
  obtain rfl : x_1 = 1 := ex_1.trans (by decide)
  refine va_sld hx hb hX hbl hbA hS (by unfold vp_in; decide) dL_law_1521 ?_
  refine lv_topi (fun x_2 ex_2 => ?_)
  obtain rfl : x_2 = 5 := ex_2.trans (hp)
  refine lv_aload_n hx hb dL_law_1522 rfl (lv_at hl 2 rfl) ?_
  have hPc := hP.sub (ws' := [(x0, .inr (9, [.ref qm, .ref qt, .ref qw, .ref qc, .ref qb, .ref qg, .int 0, .int 0, .int 0, .int 0, .int 0])), (qo, .inl (cL, 1, .inr (.inl (fun _ => 0))))]) [0, 6] rfl
  have hDc := hD.sub (ws' := [(x0, .inr (9, [.ref qm, .ref qt, .ref qw, .ref qc, .ref qb, .ref qg, .int 0, .int 0, .int 0, .int 0, .int 0])), (qo, .inl (cL, 1, .inr (.inl (fun _ => 0))))]) [0, 6] (by decide) rfl
  have hKc := hK.sub (tys' := [(cL, .long)]) [2] rfl
  have hFc := va_free (wc := [(x0, .inr (9, [.ref qm, .ref qt, .ref qw, .ref qc, .ref qb, .ref qg, .int 0, .int 0, .int 0, .int 0, .int 0])), (qo, .inl (cL, 1, .inr (.inl (fun _ => 0))))]) hD hS hA [0, 6] rfl
  have hZc := ((hZ.kept hS.2.1).narrow hFc)
  refine va_calli (vx_runSW (As := [.ref x0, .int 5, .ref qo]) (rest := []) ⟨hx, hb, hml, hown, hts⟩ (c_L_many_5 l hnt dC dI a0 x0 qm qt qw qc qb qg qo cL H.size ) (vx_cwSW 3 hts (goodIn_of _ (by decide +kernel)) rfl rfl rfl (by decide +kernel) ⟨Nat.le_of_ble_eq_true rfl, Nat.le_of_ble_eq_true rfl⟩) ⟨fun a U g mk q => by obtain ⟨q0, q1, qP, qK, qD, qZ⟩ := q; exact ⟨q0, q1, qP, va_K.moved (u := U) (U := U.calling g mk a) (Vm.Alike.refl U.vm) qK, qD, qZ.call⟩, fun U hU hW => ⟨rfl, by rw [hU], by rw [hU]; exact hPc, va_K.moved hW.alike hKc, hDc.weaken (fun _ _ _ _ => trivial), by rw [hU]; exact hZc.warm hW⟩⟩ rfl rfl hl.1 rfl (lv_room (Nat.le_of_ble_eq_true rfl)) dL_law_1523 ⟨Nat.le_of_ble_eq_true rfl, Nat.le_of_ble_eq_true rfl⟩) hS (fun q _ h => hFc q h) hFc (fun r_3 u t H1 locs ht hvm hw hB hz1 hk1 hS => ?_)
  obtain ⟨hP1, hK1, hD1⟩ := hB
  rw [ht] at hP1
  have hK1 := va_K.moved hvm.symm hK1
  obtain ⟨hP, hD⟩ := va_join (wr := [(qm, .inl (cM, 12, .inr (.inr (.inr (.inr (fun _ => none)))))), (qt, .inl (cT, 4, .inr (.inr (.inr (.inr (fun _ => none)))))), (m0, .inr (12, [.int 0, .ref l1, .ref l2, .int 0, .int 0, .int 0, .long 0])), (l1, .inr (1, [.int 0, .ref a0, .int 0])), (l2, .inr (1, [.int 0, .ref a0, .int 0])), (qd, .inl (cD, 1, .inr (.inr (.inr (.inl (fun _ => 0))))))]) (w1 := [(qo, .inl (cL, 1, .inr (.inl (vp_updL (fun _ => 0) ((0 : Int32).toNatClampNeg) 0))))]) hP hD [0, 6] [1, 2, 3, 4, 5, 7] rfl rfl (by decide) (by decide) hk1 hFc hP1 hD1
  have hK := (hK.sub (tys' := [(cM, .object "Haltingale$Machine"), (cT, .object "Haltingale$Tag"), (cL, .long), (cD, .double)]) [0, 1, 2, 3] rfl).app hK1
  generalize H1 = H at hP hS ⊢
  have hP : va_P (dC, dI) vwCl [(qm, .inl (cM, 12, .inr (.inr (.inr (.inr (fun _ => none)))))), (qt, .inl (cT, 4, .inr (.inr (.inr (.inr (fun _ => none)))))), (m0, .inr (12, [.int 0, .ref l1, .ref l2, .int 0, .int 0, .int 0, .long 0])), (l1, .inr (1, [.int 0, .ref a0, .int 0])), (l2, .inr (1, [.int 0, .ref a0, .int 0])), (qd, .inl (cD, 1, .inr (.inr (.inr (.inl (fun _ => 0)))))), (qo, .inl (cL, 1, .inr (.inl (vp_updL (fun _ => 0) ((0 : Int32).toNatClampNeg) 0))))] H := hP
  have hD : va_D A [(qm, .inl (cM, 12, .inr (.inr (.inr (.inr (fun _ => none)))))), (qt, .inl (cT, 4, .inr (.inr (.inr (.inr (fun _ => none)))))), (m0, .inr (12, [.int 0, .ref l1, .ref l2, .int 0, .int 0, .int 0, .long 0])), (l1, .inr (1, [.int 0, .ref a0, .int 0])), (l2, .inr (1, [.int 0, .ref a0, .int 0])), (qd, .inl (cD, 1, .inr (.inr (.inr (.inl (fun _ => 0)))))), (qo, .inl (cL, 1, .inr (.inl (vp_updL (fun _ => 0) ((0 : Int32).toNatClampNeg) 0))))] := hD
  have hK : va_K (dC, dI) vwCl [(cM, .object "Haltingale$Machine"), (cT, .object "Haltingale$Tag"), (cL, .long), (cD, .double), (cL, .long)] s := hK
  refine W.widen (k := 31) (n := 4324) (Nat.le_of_ble_eq_true rfl) (Nat.le_of_ble_eq_true rfl) ?_
  obtain rfl : r_3 = 0 := hw
  refine lv_istore (lv' := [(6, .int 0), (5, .int 0), (4, .ref qd), (3, .ref qo), (2, .ref m0), (1, .ref x0), (0, .ref b)]) hx hb dL_law_1526 hl (by decide) rfl (fun ls hl => ?_)
  refine lv_aload_n hx hb dL_law_1528 rfl (lv_at hl 4 rfl) ?_
  refine lv_aload_n hx hb dL_law_1529 rfl (lv_at hl 6 rfl) ?_
  refine lv_iload hx hb dL_law_1530 (lv_at hl 1 rfl) ?_
  refine lv_iconst (v := 1) hx hb dL_law_1532 (by decide) ?_
  refine lv_iadd hx hb dL_law_1533 ?_
  refine lv_topi (fun x_4 ex_4 => ?_)
  obtain rfl : x_4 = 1 := ex_4.trans (by decide)
  refine va_sld hx hb hX hbl hbA hS (by unfold vp_in; decide) dL_law_1534 ?_
  refine lv_topi (fun x_5 ex_5 => ?_)
  obtain rfl : x_5 = 5 := ex_5.trans (hp)
  have hPc := hP.sub (ws' := [(m0, .inr (12, [.int 0, .ref l1, .ref l2, .int 0, .int 0, .int 0, .long 0])), (l1, .inr (1, [.int 0, .ref a0, .int 0])), (l2, .inr (1, [.int 0, .ref a0, .int 0]))]) [2, 3, 4] rfl
  have hDc := hD.sub (ws' := [(m0, .inr (12, [.int 0, .ref l1, .ref l2, .int 0, .int 0, .int 0, .long 0])), (l1, .inr (1, [.int 0, .ref a0, .int 0])), (l2, .inr (1, [.int 0, .ref a0, .int 0]))]) [2, 3, 4] (by decide) rfl
  have hKc := hK.sub (tys' := []) [] rfl
  have hFc := va_free (wc := [(m0, .inr (12, [.int 0, .ref l1, .ref l2, .int 0, .int 0, .int 0, .long 0])), (l1, .inr (1, [.int 0, .ref a0, .int 0])), (l2, .inr (1, [.int 0, .ref a0, .int 0]))]) hD hS hA [2, 3, 4] rfl
  have hZc := ((hZ.kept hS.2.1).narrow hFc)
  refine va_calli (va_runV (As := [.int 5]) (rest := []) ⟨hx, hb, hml, hown, hts⟩ (c_X10_many_5 l hnt dC dI a0 m0 l1 l2 H.size ) (cwV 1 hts (goodIn_of _ (by decide +kernel)) rfl rfl rfl (by decide +kernel) ⟨Nat.le_of_ble_eq_true rfl, Nat.le_of_ble_eq_true rfl⟩) ⟨fun a U g mk q => by obtain ⟨q0, q1, qP, qK, qD, qZ⟩ := q; exact ⟨q0, q1, qP, va_K.moved (u := U) (U := U.calling g mk a) (Vm.Alike.refl U.vm) qK, qD, qZ.call⟩, va_recv hKc hPc (ci := 12) (q0 := 0) rfl rfl, fun U hU hW => ⟨rfl, by rw [hU], by rw [hU]; exact hPc, va_K.moved hW.alike hKc, hDc.weaken (fun _ _ _ _ => trivial), by rw [hU]; exact hZc.warm hW⟩⟩ rfl rfl hl.1 rfl (lv_room (Nat.le_of_ble_eq_true rfl)) dL_law_1535 ⟨Nat.le_of_ble_eq_true rfl, Nat.le_of_ble_eq_true rfl⟩) hS (fun q _ h => hFc q h) hFc (fun r_6 u t H1 locs ht hvm hw hB hz1 hk1 hS => ?_)
  obtain ⟨hP1, hK1, hD1⟩ := hB
  rw [ht] at hP1
  have hK1 := va_K.moved hvm.symm hK1
  obtain ⟨hP, hD⟩ := va_join (wr := [(qm, .inl (cM, 12, .inr (.inr (.inr (.inr (fun _ => none)))))), (qt, .inl (cT, 4, .inr (.inr (.inr (.inr (fun _ => none)))))), (qd, .inl (cD, 1, .inr (.inr (.inr (.inl (fun _ => 0)))))), (qo, .inl (cL, 1, .inr (.inl (vp_updL (fun _ => 0) ((0 : Int32).toNatClampNeg) 0))))]) (w1 := [(m0, .inr (12, [.int 0, .ref l1, .ref l2, .int 0, .int 0, .int 0, .long 0]))]) hP hD [2, 3, 4] [0, 1, 5, 6] rfl rfl (by decide) (by decide) hk1 hFc hP1 hD1
  have hK := (hK.sub (tys' := [(cM, .object "Haltingale$Machine"), (cT, .object "Haltingale$Tag"), (cL, .long), (cD, .double), (cL, .long)]) [0, 1, 2, 3, 4] rfl).app hK1
  generalize H1 = H at hP hS ⊢
  have hP : va_P (dC, dI) vwCl [(qm, .inl (cM, 12, .inr (.inr (.inr (.inr (fun _ => none)))))), (qt, .inl (cT, 4, .inr (.inr (.inr (.inr (fun _ => none)))))), (qd, .inl (cD, 1, .inr (.inr (.inr (.inl (fun _ => 0)))))), (qo, .inl (cL, 1, .inr (.inl (vp_updL (fun _ => 0) ((0 : Int32).toNatClampNeg) 0)))), (m0, .inr (12, [.int 0, .ref l1, .ref l2, .int 0, .int 0, .int 0, .long 0]))] H := hP
  have hD : va_D A [(qm, .inl (cM, 12, .inr (.inr (.inr (.inr (fun _ => none)))))), (qt, .inl (cT, 4, .inr (.inr (.inr (.inr (fun _ => none)))))), (qd, .inl (cD, 1, .inr (.inr (.inr (.inl (fun _ => 0)))))), (qo, .inl (cL, 1, .inr (.inl (vp_updL (fun _ => 0) ((0 : Int32).toNatClampNeg) 0)))), (m0, .inr (12, [.int 0, .ref l1, .ref l2, .int 0, .int 0, .int 0, .long 0]))] := hD
  have hK : va_K (dC, dI) vwCl [(cM, .object "Haltingale$Machine"), (cT, .object "Haltingale$Tag"), (cL, .long), (cD, .double), (cL, .long)] s := hK
  refine W.widen (k := 34) (n := 4344) (Nat.le_of_ble_eq_true rfl) (Nat.le_of_ble_eq_true rfl) ?_
  obtain rfl : r_6 = 0 := hw
  refine lv_istore (lv' := [(7, .int 0), (6, .int 0), (5, .int 0), (4, .ref qd), (3, .ref qo), (2, .ref m0), (1, .ref x0), (0, .ref b)]) hx hb dL_law_1538 hl (by decide) rfl (fun ls hl => ?_)
  refine lv_aload_n hx hb dL_law_1540 rfl (lv_at hl 5 rfl) ?_
  have hPc := hP.sub (ws' := [(m0, .inr (12, [.int 0, .ref l1, .ref l2, .int 0, .int 0, .int 0, .long 0]))]) [4] rfl
  have hDc := hD.sub (ws' := [(m0, .inr (12, [.int 0, .ref l1, .ref l2, .int 0, .int 0, .int 0, .long 0]))]) [4] (by decide) rfl
  have hKc := hK.sub (tys' := []) [] rfl
  have hFc := va_free (wc := [(m0, .inr (12, [.int 0, .ref l1, .ref l2, .int 0, .int 0, .int 0, .long 0]))]) hD hS hA [4] rfl
  have hZc := ((hZ.kept hS.2.1).narrow hFc)
  refine va_calli (va_runV (As := []) (rest := []) ⟨hx, hb, hml, hown, hts⟩ (c_X10_thrown l hnt dC dI a0 m0 l1 l2 0 H.size ) (cwV 0 hts (goodIn_of _ (by decide +kernel)) rfl rfl rfl (by decide +kernel) ⟨Nat.le_of_ble_eq_true rfl, Nat.le_of_ble_eq_true rfl⟩) ⟨fun a U g mk q => by obtain ⟨q0, q1, qP, qK, qD, qZ⟩ := q; exact ⟨q0, q1, qP, va_K.moved (u := U) (U := U.calling g mk a) (Vm.Alike.refl U.vm) qK, qD, qZ.call⟩, va_recv hKc hPc (ci := 12) (q0 := 0) rfl rfl, fun U hU hW => ⟨rfl, by rw [hU], by rw [hU]; exact hPc, va_K.moved hW.alike hKc, hDc.weaken (fun _ _ _ _ => trivial), by rw [hU]; exact hZc.warm hW⟩⟩ rfl rfl hl.1 rfl (lv_room (Nat.le_of_ble_eq_true rfl)) dL_law_1541 ⟨Nat.le_of_ble_eq_true rfl, Nat.le_of_ble_eq_true rfl⟩) hS (fun q _ h => hFc q h) hFc (fun r_7 u t H1 locs ht hvm hw hB hz1 hk1 hS => ?_)
  obtain ⟨hP1, hK1, hD1⟩ := hB
  rw [ht] at hP1
  have hK1 := va_K.moved hvm.symm hK1
  obtain ⟨hP, hD⟩ := va_join (wr := [(qm, .inl (cM, 12, .inr (.inr (.inr (.inr (fun _ => none)))))), (qt, .inl (cT, 4, .inr (.inr (.inr (.inr (fun _ => none)))))), (qd, .inl (cD, 1, .inr (.inr (.inr (.inl (fun _ => 0)))))), (qo, .inl (cL, 1, .inr (.inl (vp_updL (fun _ => 0) ((0 : Int32).toNatClampNeg) 0))))]) (w1 := []) hP hD [4] [0, 1, 2, 3] rfl rfl (by decide) (by decide) hk1 hFc hP1 hD1
  have hK := (hK.sub (tys' := [(cM, .object "Haltingale$Machine"), (cT, .object "Haltingale$Tag"), (cL, .long), (cD, .double), (cL, .long)]) [0, 1, 2, 3, 4] rfl).app hK1
  generalize H1 = H at hP hS ⊢
  have hP : va_P (dC, dI) vwCl [(qm, .inl (cM, 12, .inr (.inr (.inr (.inr (fun _ => none)))))), (qt, .inl (cT, 4, .inr (.inr (.inr (.inr (fun _ => none)))))), (qd, .inl (cD, 1, .inr (.inr (.inr (.inl (fun _ => 0)))))), (qo, .inl (cL, 1, .inr (.inl (vp_updL (fun _ => 0) ((0 : Int32).toNatClampNeg) 0))))] H := hP
  have hD : va_D A [(qm, .inl (cM, 12, .inr (.inr (.inr (.inr (fun _ => none)))))), (qt, .inl (cT, 4, .inr (.inr (.inr (.inr (fun _ => none)))))), (qd, .inl (cD, 1, .inr (.inr (.inr (.inl (fun _ => 0)))))), (qo, .inl (cL, 1, .inr (.inl (vp_updL (fun _ => 0) ((0 : Int32).toNatClampNeg) 0))))] := hD
  have hK : va_K (dC, dI) vwCl [(cM, .object "Haltingale$Machine"), (cT, .object "Haltingale$Tag"), (cL, .long), (cD, .double), (cL, .long)] s := hK
  refine W.widen (k := 34) (n := 4344) (Nat.le_of_ble_eq_true rfl) (Nat.le_of_ble_eq_true rfl) ?_
  obtain rfl : r_7 = 0 := hw
  refine lv_iload hx hb dL_law_1544 (lv_at hl 1 rfl) ?_
  refine lv_icmp_eq (tgt := 1551) hx hb dL_law_1546 (by decide) (fun c_8 => ?_) (fun c_8 => ?_)
  rotate_left
  · (first | exact absurd c_8 (by decide) | exact absurd (by decide) c_8)
  refine lv_iload hx hb dL_law_1551 (lv_at hl 1 rfl) ?_
  refine lv_if_ne (tgt := 1568) hx hb dL_law_1553 (by decide) (fun c_9 => ?_) (fun c_9 => ?_)
  · (first | exact absurd c_9 (by decide) | exact absurd (by decide) c_9)
  refine lv_aload_n hx hb dL_law_1556 rfl (lv_at hl 4 rfl) ?_
  refine lv_iconst (v := 0) hx hb dL_law_1557 (by decide) ?_
  refine va_lald hx hb hK hP 3 2 rfl rfl (by unfold vp_in; decide) dL_law_1558 ?_
  refine lv_topl (fun y_10 ey_10 => ?_)
  obtain rfl : y_10 = 0 := ey_10.trans (by decide +kernel)
  refine lv_iload hx hb dL_law_1559 (lv_at hl 0 rfl) ?_
  refine lv_i2l (v := 0) hx hb dL_law_1561 (by decide) ?_
  refine W.lcmp hx hb dL_law_1562 ?_
  refine lv_topi (fun x_11 ex_11 => ?_)
  obtain rfl : x_11 = 0 := ex_11.trans (by decide +kernel)
  refine lv_if_eq (tgt := 1568) hx hb dL_law_1563 (by decide) (fun c_12 => ?_) (fun c_12 => ?_)
  rotate_left
  · (first | exact absurd c_12 (by decide) | exact absurd (by decide) c_12)
  refine lv_goto (tgt := 1806) hx hb dL_law_1568 (by decide) ?_
  refine lv_iinc (v := 7) (lv' := [(5, .int 7), (7, .int 0), (6, .int 0), (4, .ref qd), (3, .ref qo), (2, .ref m0), (1, .ref x0), (0, .ref b)]) hx hb dL_law_1806 hl (k := 2) rfl (by decide) (by decide) rfl (fun ls hl => ?_)
  refine lv_goto (tgt := 28) hx hb dL_law_1809 (by decide) ?_
  refine lv_iload hx hb dL_law_28 (lv_at hl 0 rfl) ?_
  refine lv_aload_n hx hb dL_law_30 rfl (lv_at hl 7 rfl) ?_
  refine va_slen hx hb hX hbl hbA hS dL_law_31 ?_
  refine lv_topi (fun x_13 ex_13 => ?_)
  obtain rfl : x_13 = 7 := ex_13.trans (by decide)
  refine lv_bipush (v := 7) hx hb dL_law_32 (by decide) ?_
  refine lv_isub hx hb dL_law_34 ?_
  refine lv_topi (fun x_14 ex_14 => ?_)
  obtain rfl : x_14 = 0 := ex_14.trans (by decide)
  refine lv_icmp_gt (tgt := 1812) hx hb dL_law_35 (by decide) (fun c_15 => ?_) (fun c_15 => ?_)
  rotate_left
  · (first | exact absurd c_15 (by decide) | exact absurd (by decide) c_15)
  refine lv_iconst (v := 1) hx hb dL_law_1812 (by decide) ?_
  refine va_forget (fun q hq => hA2 _ (hS.2.2 q hq)) ?_
  refine W.widen (k := room_1.cells) (n := room_1.slots) (Nat.le_of_ble_eq_true rfl) (Nat.le_of_ble_eq_true rfl) ?_
  exact lw_ret0 hx hb hr hlocks dL_law_1813

set_option maxHeartbeats 4000000 in
set_option maxRecDepth 100000 in
/-- the law, case 17 -/
theorem law_17_6 {p : Program} {l : Launch} (hnt : l.stackTraces = false) {e : Env} {s : State} {m : MethodId} {below : List Frame} {meth : Method} {c : Code} {dC : Nat → ClassId} {dI : Nat → Nat → Nat} {a0 b : Nat} {xs : Nat → Int32} (C0 : lw_At p s m meth c b 7 xs) {A : Nat → Prop} (hA : ∀ q : Nat, s.heap.size ≤ q → A q) (hA2 : ∀ q : Nat, A q → s.heap.size ≤ q) (hZ : zB a0 A s s.heap) {x0 : Nat} {qm : Nat} {qt : Nat} {qw : Nat} {qc : Nat} {qb : Nat} {qg : Nat} {m0 : Nat} {l1 : Nat} {l2 : Nat} {qo : Nat} {qd : Nat} {cM : ClassId} {cT : ClassId} {cL : ClassId} {cD : ClassId} {H : Heap} {locs : List Loc} (hK : va_K (dC, dI) vwCl [(cM, .object "Haltingale$Machine"), (cT, .object "Haltingale$Tag"), (cL, .long), (cD, .double)] s) (hP : va_P (dC, dI) vwCl [(x0, .inr (9, [.ref qm, .ref qt, .ref qw, .ref qc, .ref qb, .ref qg, .int 0, .int 0, .int 0, .int 0, .int 0])), (qm, .inl (cM, 12, .inr (.inr (.inr (.inr (fun _ => none)))))), (qt, .inl (cT, 4, .inr (.inr (.inr (.inr (fun _ => none)))))), (m0, .inr (12, [.int 0, .ref l1, .ref l2, .int 0, .int 0, .int 0, .long 0])), (l1, .inr (1, [.int 0, .ref a0, .int 0])), (l2, .inr (1, [.int 0, .ref a0, .int 0])), (qo, .inl (cL, 1, .inr (.inl (fun _ => 0)))), (qd, .inl (cD, 1, .inr (.inr (.inr (.inl (fun _ => 0))))))] H) (hD : va_D A [(x0, .inr (9, [.ref qm, .ref qt, .ref qw, .ref qc, .ref qb, .ref qg, .int 0, .int 0, .int 0, .int 0, .int 0])), (qm, .inl (cM, 12, .inr (.inr (.inr (.inr (fun _ => none)))))), (qt, .inl (cT, 4, .inr (.inr (.inr (.inr (fun _ => none)))))), (m0, .inr (12, [.int 0, .ref l1, .ref l2, .int 0, .int 0, .int 0, .long 0])), (l1, .inr (1, [.int 0, .ref a0, .int 0])), (l2, .inr (1, [.int 0, .ref a0, .int 0])), (qo, .inl (cL, 1, .inr (.inl (fun _ => 0)))), (qd, .inl (cD, 1, .inr (.inr (.inr (.inl (fun _ => 0))))))]) (hS : va_S A s.heap H locs) {ls : Array Slot} (hl : lv_has ls 10 [(5, .int 0), (4, .ref qd), (3, .ref qo), (2, .ref m0), (1, .ref x0), (0, .ref b)]) (hp : xs ((1 : Int32).toNatClampNeg) = 6) : W p l e room_1 s m #[Value.ref b] below meth c H locs 31 4324 (lw_Z below #[Value.ref b] s) (F0 m 1515 ls []) := by
  obtain ⟨hx, hb, hr, hml, hown, hts0, hX, hbl, hlocks, hgv⟩ := C0
  have hts : ∀ w ∈ zs_law, w.before #[Value.ref b] s = true := fun w h => hts0 w (zs_law_in w h)
  have hbA : ¬ A b := fun h => absurd (hA2 b h) (Nat.not_le.mpr hbl)
  refine lv_aload_n hx hb dL_law_1515 rfl (lv_at hl 4 rfl) ?_
  refine lv_aload_n hx hb dL_law_1516 rfl (lv_at hl 5 rfl) ?_
  refine lv_iload hx hb dL_law_1517 (lv_at hl 0 rfl) ?_
  refine lv_iconst (v := 1) hx hb dL_law_1519 (by decide) ?_
  refine lv_iadd hx hb dL_law_1520 ?_
  refine lv_topi (fun x_1 ex_1 => ?_)
  obtain rfl : x_1 = 1 := ex_1.trans (by decide)
  refine va_sld hx hb hX hbl hbA hS (by unfold vp_in; decide) dL_law_1521 ?_
  refine lv_topi (fun x_2 ex_2 => ?_)
  obtain rfl : x_2 = 6 := ex_2.trans (hp)
  refine lv_aload_n hx hb dL_law_1522 rfl (lv_at hl 2 rfl) ?_
  have hPc := hP.sub (ws' := [(x0, .inr (9, [.ref qm, .ref qt, .ref qw, .ref qc, .ref qb, .ref qg, .int 0, .int 0, .int 0, .int 0, .int 0])), (qo, .inl (cL, 1, .inr (.inl (fun _ => 0))))]) [0, 6] rfl
  have hDc := hD.sub (ws' := [(x0, .inr (9, [.ref qm, .ref qt, .ref qw, .ref qc, .ref qb, .ref qg, .int 0, .int 0, .int 0, .int 0, .int 0])), (qo, .inl (cL, 1, .inr (.inl (fun _ => 0))))]) [0, 6] (by decide) rfl
  have hKc := hK.sub (tys' := [(cL, .long)]) [2] rfl
  have hFc := va_free (wc := [(x0, .inr (9, [.ref qm, .ref qt, .ref qw, .ref qc, .ref qb, .ref qg, .int 0, .int 0, .int 0, .int 0, .int 0])), (qo, .inl (cL, 1, .inr (.inl (fun _ => 0))))]) hD hS hA [0, 6] rfl
  have hZc := ((hZ.kept hS.2.1).narrow hFc)
  refine va_calli (vx_runSW (As := [.ref x0, .int 6, .ref qo]) (rest := []) ⟨hx, hb, hml, hown, hts⟩ (c_L_many_6 l hnt dC dI a0 x0 qm qt qw qc qb qg qo cL H.size ) (vx_cwSW 3 hts (goodIn_of _ (by decide +kernel)) rfl rfl rfl (by decide +kernel) ⟨Nat.le_of_ble_eq_true rfl, Nat.le_of_ble_eq_true rfl⟩) ⟨fun a U g mk q => by obtain ⟨q0, q1, qP, qK, qD, qZ⟩ := q; exact ⟨q0, q1, qP, va_K.moved (u := U) (U := U.calling g mk a) (Vm.Alike.refl U.vm) qK, qD, qZ.call⟩, fun U hU hW => ⟨rfl, by rw [hU], by rw [hU]; exact hPc, va_K.moved hW.alike hKc, hDc.weaken (fun _ _ _ _ => trivial), by rw [hU]; exact hZc.warm hW⟩⟩ rfl rfl hl.1 rfl (lv_room (Nat.le_of_ble_eq_true rfl)) dL_law_1523 ⟨Nat.le_of_ble_eq_true rfl, Nat.le_of_ble_eq_true rfl⟩) hS (fun q _ h => hFc q h) hFc (fun r_3 u t H1 locs ht hvm hw hB hz1 hk1 hS => ?_)
  obtain ⟨hP1, hK1, hD1⟩ := hB
  rw [ht] at hP1
  have hK1 := va_K.moved hvm.symm hK1
  obtain ⟨hP, hD⟩ := va_join (wr := [(qm, .inl (cM, 12, .inr (.inr (.inr (.inr (fun _ => none)))))), (qt, .inl (cT, 4, .inr (.inr (.inr (.inr (fun _ => none)))))), (m0, .inr (12, [.int 0, .ref l1, .ref l2, .int 0, .int 0, .int 0, .long 0])), (l1, .inr (1, [.int 0, .ref a0, .int 0])), (l2, .inr (1, [.int 0, .ref a0, .int 0])), (qd, .inl (cD, 1, .inr (.inr (.inr (.inl (fun _ => 0))))))]) (w1 := [(qo, .inl (cL, 1, .inr (.inl (vp_updL (fun _ => 0) ((0 : Int32).toNatClampNeg) 0))))]) hP hD [0, 6] [1, 2, 3, 4, 5, 7] rfl rfl (by decide) (by decide) hk1 hFc hP1 hD1
  have hK := (hK.sub (tys' := [(cM, .object "Haltingale$Machine"), (cT, .object "Haltingale$Tag"), (cL, .long), (cD, .double)]) [0, 1, 2, 3] rfl).app hK1
  generalize H1 = H at hP hS ⊢
  have hP : va_P (dC, dI) vwCl [(qm, .inl (cM, 12, .inr (.inr (.inr (.inr (fun _ => none)))))), (qt, .inl (cT, 4, .inr (.inr (.inr (.inr (fun _ => none)))))), (m0, .inr (12, [.int 0, .ref l1, .ref l2, .int 0, .int 0, .int 0, .long 0])), (l1, .inr (1, [.int 0, .ref a0, .int 0])), (l2, .inr (1, [.int 0, .ref a0, .int 0])), (qd, .inl (cD, 1, .inr (.inr (.inr (.inl (fun _ => 0)))))), (qo, .inl (cL, 1, .inr (.inl (vp_updL (fun _ => 0) ((0 : Int32).toNatClampNeg) 0))))] H := hP
  have hD : va_D A [(qm, .inl (cM, 12, .inr (.inr (.inr (.inr (fun _ => none)))))), (qt, .inl (cT, 4, .inr (.inr (.inr (.inr (fun _ => none)))))), (m0, .inr (12, [.int 0, .ref l1, .ref l2, .int 0, .int 0, .int 0, .long 0])), (l1, .inr (1, [.int 0, .ref a0, .int 0])), (l2, .inr (1, [.int 0, .ref a0, .int 0])), (qd, .inl (cD, 1, .inr (.inr (.inr (.inl (fun _ => 0)))))), (qo, .inl (cL, 1, .inr (.inl (vp_updL (fun _ => 0) ((0 : Int32).toNatClampNeg) 0))))] := hD
  have hK : va_K (dC, dI) vwCl [(cM, .object "Haltingale$Machine"), (cT, .object "Haltingale$Tag"), (cL, .long), (cD, .double), (cL, .long)] s := hK
  refine W.widen (k := 31) (n := 4324) (Nat.le_of_ble_eq_true rfl) (Nat.le_of_ble_eq_true rfl) ?_
  obtain rfl : r_3 = 0 := hw
  refine lv_istore (lv' := [(6, .int 0), (5, .int 0), (4, .ref qd), (3, .ref qo), (2, .ref m0), (1, .ref x0), (0, .ref b)]) hx hb dL_law_1526 hl (by decide) rfl (fun ls hl => ?_)
  refine lv_aload_n hx hb dL_law_1528 rfl (lv_at hl 4 rfl) ?_
  refine lv_aload_n hx hb dL_law_1529 rfl (lv_at hl 6 rfl) ?_
  refine lv_iload hx hb dL_law_1530 (lv_at hl 1 rfl) ?_
  refine lv_iconst (v := 1) hx hb dL_law_1532 (by decide) ?_
  refine lv_iadd hx hb dL_law_1533 ?_
  refine lv_topi (fun x_4 ex_4 => ?_)
  obtain rfl : x_4 = 1 := ex_4.trans (by decide)
  refine va_sld hx hb hX hbl hbA hS (by unfold vp_in; decide) dL_law_1534 ?_
  refine lv_topi (fun x_5 ex_5 => ?_)
  obtain rfl : x_5 = 6 := ex_5.trans (hp)
  have hPc := hP.sub (ws' := [(m0, .inr (12, [.int 0, .ref l1, .ref l2, .int 0, .int 0, .int 0, .long 0])), (l1, .inr (1, [.int 0, .ref a0, .int 0])), (l2, .inr (1, [.int 0, .ref a0, .int 0]))]) [2, 3, 4] rfl
  have hDc := hD.sub (ws' := [(m0, .inr (12, [.int 0, .ref l1, .ref l2, .int 0, .int 0, .int 0, .long 0])), (l1, .inr (1, [.int 0, .ref a0, .int 0])), (l2, .inr (1, [.int 0, .ref a0, .int 0]))]) [2, 3, 4] (by decide) rfl
  have hKc := hK.sub (tys' := []) [] rfl
  have hFc := va_free (wc := [(m0, .inr (12, [.int 0, .ref l1, .ref l2, .int 0, .int 0, .int 0, .long 0])), (l1, .inr (1, [.int 0, .ref a0, .int 0])), (l2, .inr (1, [.int 0, .ref a0, .int 0]))]) hD hS hA [2, 3, 4] rfl
  have hZc := ((hZ.kept hS.2.1).narrow hFc)
  refine va_calli (va_runV (As := [.int 6]) (rest := []) ⟨hx, hb, hml, hown, hts⟩ (c_X10_many_6 l hnt dC dI a0 m0 l1 l2 H.size ) (cwV 1 hts (goodIn_of _ (by decide +kernel)) rfl rfl rfl (by decide +kernel) ⟨Nat.le_of_ble_eq_true rfl, Nat.le_of_ble_eq_true rfl⟩) ⟨fun a U g mk q => by obtain ⟨q0, q1, qP, qK, qD, qZ⟩ := q; exact ⟨q0, q1, qP, va_K.moved (u := U) (U := U.calling g mk a) (Vm.Alike.refl U.vm) qK, qD, qZ.call⟩, va_recv hKc hPc (ci := 12) (q0 := 0) rfl rfl, fun U hU hW => ⟨rfl, by rw [hU], by rw [hU]; exact hPc, va_K.moved hW.alike hKc, hDc.weaken (fun _ _ _ _ => trivial), by rw [hU]; exact hZc.warm hW⟩⟩ rfl rfl hl.1 rfl (lv_room (Nat.le_of_ble_eq_true rfl)) dL_law_1535 ⟨Nat.le_of_ble_eq_true rfl, Nat.le_of_ble_eq_true rfl⟩) hS (fun q _ h => hFc q h) hFc (fun r_6 u t H1 locs ht hvm hw hB hz1 hk1 hS => ?_)
  obtain ⟨hP1, hK1, hD1⟩ := hB
  rw [ht] at hP1
  have hK1 := va_K.moved hvm.symm hK1
  obtain ⟨hP, hD⟩ := va_join (wr := [(qm, .inl (cM, 12, .inr (.inr (.inr (.inr (fun _ => none)))))), (qt, .inl (cT, 4, .inr (.inr (.inr (.inr (fun _ => none)))))), (qd, .inl (cD, 1, .inr (.inr (.inr (.inl (fun _ => 0)))))), (qo, .inl (cL, 1, .inr (.inl (vp_updL (fun _ => 0) ((0 : Int32).toNatClampNeg) 0))))]) (w1 := [(m0, .inr (12, [.int 0, .ref l1, .ref l2, .int 0, .int 0, .int 0, .long 0]))]) hP hD [2, 3, 4] [0, 1, 5, 6] rfl rfl (by decide) (by decide) hk1 hFc hP1 hD1
  have hK := (hK.sub (tys' := [(cM, .object "Haltingale$Machine"), (cT, .object "Haltingale$Tag"), (cL, .long), (cD, .double), (cL, .long)]) [0, 1, 2, 3, 4] rfl).app hK1
  generalize H1 = H at hP hS ⊢
  have hP : va_P (dC, dI) vwCl [(qm, .inl (cM, 12, .inr (.inr (.inr (.inr (fun _ => none)))))), (qt, .inl (cT, 4, .inr (.inr (.inr (.inr (fun _ => none)))))), (qd, .inl (cD, 1, .inr (.inr (.inr (.inl (fun _ => 0)))))), (qo, .inl (cL, 1, .inr (.inl (vp_updL (fun _ => 0) ((0 : Int32).toNatClampNeg) 0)))), (m0, .inr (12, [.int 0, .ref l1, .ref l2, .int 0, .int 0, .int 0, .long 0]))] H := hP
  have hD : va_D A [(qm, .inl (cM, 12, .inr (.inr (.inr (.inr (fun _ => none)))))), (qt, .inl (cT, 4, .inr (.inr (.inr (.inr (fun _ => none)))))), (qd, .inl (cD, 1, .inr (.inr (.inr (.inl (fun _ => 0)))))), (qo, .inl (cL, 1, .inr (.inl (vp_updL (fun _ => 0) ((0 : Int32).toNatClampNeg) 0)))), (m0, .inr (12, [.int 0, .ref l1, .ref l2, .int 0, .int 0, .int 0, .long 0]))] := hD
  have hK : va_K (dC, dI) vwCl [(cM, .object "Haltingale$Machine"), (cT, .object "Haltingale$Tag"), (cL, .long), (cD, .double), (cL, .long)] s := hK
  refine W.widen (k := 34) (n := 4344) (Nat.le_of_ble_eq_true rfl) (Nat.le_of_ble_eq_true rfl) ?_
  obtain rfl : r_6 = 0 := hw
  refine lv_istore (lv' := [(7, .int 0), (6, .int 0), (5, .int 0), (4, .ref qd), (3, .ref qo), (2, .ref m0), (1, .ref x0), (0, .ref b)]) hx hb dL_law_1538 hl (by decide) rfl (fun ls hl => ?_)
  refine lv_aload_n hx hb dL_law_1540 rfl (lv_at hl 5 rfl) ?_
  have hPc := hP.sub (ws' := [(m0, .inr (12, [.int 0, .ref l1, .ref l2, .int 0, .int 0, .int 0, .long 0]))]) [4] rfl
  have hDc := hD.sub (ws' := [(m0, .inr (12, [.int 0, .ref l1, .ref l2, .int 0, .int 0, .int 0, .long 0]))]) [4] (by decide) rfl
  have hKc := hK.sub (tys' := []) [] rfl
  have hFc := va_free (wc := [(m0, .inr (12, [.int 0, .ref l1, .ref l2, .int 0, .int 0, .int 0, .long 0]))]) hD hS hA [4] rfl
  have hZc := ((hZ.kept hS.2.1).narrow hFc)
  refine va_calli (va_runV (As := []) (rest := []) ⟨hx, hb, hml, hown, hts⟩ (c_X10_thrown l hnt dC dI a0 m0 l1 l2 0 H.size ) (cwV 0 hts (goodIn_of _ (by decide +kernel)) rfl rfl rfl (by decide +kernel) ⟨Nat.le_of_ble_eq_true rfl, Nat.le_of_ble_eq_true rfl⟩) ⟨fun a U g mk q => by obtain ⟨q0, q1, qP, qK, qD, qZ⟩ := q; exact ⟨q0, q1, qP, va_K.moved (u := U) (U := U.calling g mk a) (Vm.Alike.refl U.vm) qK, qD, qZ.call⟩, va_recv hKc hPc (ci := 12) (q0 := 0) rfl rfl, fun U hU hW => ⟨rfl, by rw [hU], by rw [hU]; exact hPc, va_K.moved hW.alike hKc, hDc.weaken (fun _ _ _ _ => trivial), by rw [hU]; exact hZc.warm hW⟩⟩ rfl rfl hl.1 rfl (lv_room (Nat.le_of_ble_eq_true rfl)) dL_law_1541 ⟨Nat.le_of_ble_eq_true rfl, Nat.le_of_ble_eq_true rfl⟩) hS (fun q _ h => hFc q h) hFc (fun r_7 u t H1 locs ht hvm hw hB hz1 hk1 hS => ?_)
  obtain ⟨hP1, hK1, hD1⟩ := hB
  rw [ht] at hP1
  have hK1 := va_K.moved hvm.symm hK1
  obtain ⟨hP, hD⟩ := va_join (wr := [(qm, .inl (cM, 12, .inr (.inr (.inr (.inr (fun _ => none)))))), (qt, .inl (cT, 4, .inr (.inr (.inr (.inr (fun _ => none)))))), (qd, .inl (cD, 1, .inr (.inr (.inr (.inl (fun _ => 0)))))), (qo, .inl (cL, 1, .inr (.inl (vp_updL (fun _ => 0) ((0 : Int32).toNatClampNeg) 0))))]) (w1 := []) hP hD [4] [0, 1, 2, 3] rfl rfl (by decide) (by decide) hk1 hFc hP1 hD1
  have hK := (hK.sub (tys' := [(cM, .object "Haltingale$Machine"), (cT, .object "Haltingale$Tag"), (cL, .long), (cD, .double), (cL, .long)]) [0, 1, 2, 3, 4] rfl).app hK1
  generalize H1 = H at hP hS ⊢
  have hP : va_P (dC, dI) vwCl [(qm, .inl (cM, 12, .inr (.inr (.inr (.inr (fun _ => none)))))), (qt, .inl (cT, 4, .inr (.inr (.inr (.inr (fun _ => none)))))), (qd, .inl (cD, 1, .inr (.inr (.inr (.inl (fun _ => 0)))))), (qo, .inl (cL, 1, .inr (.inl (vp_updL (fun _ => 0) ((0 : Int32).toNatClampNeg) 0))))] H := hP
  have hD : va_D A [(qm, .inl (cM, 12, .inr (.inr (.inr (.inr (fun _ => none)))))), (qt, .inl (cT, 4, .inr (.inr (.inr (.inr (fun _ => none)))))), (qd, .inl (cD, 1, .inr (.inr (.inr (.inl (fun _ => 0)))))), (qo, .inl (cL, 1, .inr (.inl (vp_updL (fun _ => 0) ((0 : Int32).toNatClampNeg) 0))))] := hD
  have hK : va_K (dC, dI) vwCl [(cM, .object "Haltingale$Machine"), (cT, .object "Haltingale$Tag"), (cL, .long), (cD, .double), (cL, .long)] s := hK
  refine W.widen (k := 34) (n := 4344) (Nat.le_of_ble_eq_true rfl) (Nat.le_of_ble_eq_true rfl) ?_
  obtain rfl : r_7 = 0 := hw
  refine lv_iload hx hb dL_law_1544 (lv_at hl 1 rfl) ?_
  refine lv_icmp_eq (tgt := 1551) hx hb dL_law_1546 (by decide) (fun c_8 => ?_) (fun c_8 => ?_)
  rotate_left
  · (first | exact absurd c_8 (by decide) | exact absurd (by decide) c_8)
  refine lv_iload hx hb dL_law_1551 (lv_at hl 1 rfl) ?_
  refine lv_if_ne (tgt := 1568) hx hb dL_law_1553 (by decide) (fun c_9 => ?_) (fun c_9 => ?_)
  · (first | exact absurd c_9 (by decide) | exact absurd (by decide) c_9)
  refine lv_aload_n hx hb dL_law_1556 rfl (lv_at hl 4 rfl) ?_
  refine lv_iconst (v := 0) hx hb dL_law_1557 (by decide) ?_
  refine va_lald hx hb hK hP 3 2 rfl rfl (by unfold vp_in; decide) dL_law_1558 ?_
  refine lv_topl (fun y_10 ey_10 => ?_)
  obtain rfl : y_10 = 0 := ey_10.trans (by decide +kernel)
  refine lv_iload hx hb dL_law_1559 (lv_at hl 0 rfl) ?_
  refine lv_i2l (v := 0) hx hb dL_law_1561 (by decide) ?_
  refine W.lcmp hx hb dL_law_1562 ?_
  refine lv_topi (fun x_11 ex_11 => ?_)
  obtain rfl : x_11 = 0 := ex_11.trans (by decide +kernel)
  refine lv_if_eq (tgt := 1568) hx hb dL_law_1563 (by decide) (fun c_12 => ?_) (fun c_12 => ?_)
  rotate_left
  · (first | exact absurd c_12 (by decide) | exact absurd (by decide) c_12)
  refine lv_goto (tgt := 1806) hx hb dL_law_1568 (by decide) ?_
  refine lv_iinc (v := 7) (lv' := [(5, .int 7), (7, .int 0), (6, .int 0), (4, .ref qd), (3, .ref qo), (2, .ref m0), (1, .ref x0), (0, .ref b)]) hx hb dL_law_1806 hl (k := 2) rfl (by decide) (by decide) rfl (fun ls hl => ?_)
  refine lv_goto (tgt := 28) hx hb dL_law_1809 (by decide) ?_
  refine lv_iload hx hb dL_law_28 (lv_at hl 0 rfl) ?_
  refine lv_aload_n hx hb dL_law_30 rfl (lv_at hl 7 rfl) ?_
  refine va_slen hx hb hX hbl hbA hS dL_law_31 ?_
  refine lv_topi (fun x_13 ex_13 => ?_)
  obtain rfl : x_13 = 7 := ex_13.trans (by decide)
  refine lv_bipush (v := 7) hx hb dL_law_32 (by decide) ?_
  refine lv_isub hx hb dL_law_34 ?_
  refine lv_topi (fun x_14 ex_14 => ?_)
  obtain rfl : x_14 = 0 := ex_14.trans (by decide)
  refine lv_icmp_gt (tgt := 1812) hx hb dL_law_35 (by decide) (fun c_15 => ?_) (fun c_15 => ?_)
  rotate_left
  · (first | exact absurd c_15 (by decide) | exact absurd (by decide) c_15)
  refine lv_iconst (v := 1) hx hb dL_law_1812 (by decide) ?_
  refine va_forget (fun q hq => hA2 _ (hS.2.2 q hq)) ?_
  refine W.widen (k := room_1.cells) (n := room_1.slots) (Nat.le_of_ble_eq_true rfl) (Nat.le_of_ble_eq_true rfl) ?_
  exact lw_ret0 hx hb hr hlocks dL_law_1813

set_option maxHeartbeats 4000000 in
set_option maxRecDepth 100000 in
/-- the law, case 17 -/
theorem law_17_7 {p : Program} {l : Launch} (hnt : l.stackTraces = false) {e : Env} {s : State} {m : MethodId} {below : List Frame} {meth : Method} {c : Code} {dC : Nat → ClassId} {dI : Nat → Nat → Nat} {a0 b : Nat} {xs : Nat → Int32} (C0 : lw_At p s m meth c b 7 xs) {A : Nat → Prop} (hA : ∀ q : Nat, s.heap.size ≤ q → A q) (hA2 : ∀ q : Nat, A q → s.heap.size ≤ q) (hZ : zB a0 A s s.heap) {x0 : Nat} {qm : Nat} {qt : Nat} {qw : Nat} {qc : Nat} {qb : Nat} {qg : Nat} {m0 : Nat} {l1 : Nat} {l2 : Nat} {qo : Nat} {qd : Nat} {cM : ClassId} {cT : ClassId} {cL : ClassId} {cD : ClassId} {H : Heap} {locs : List Loc} (hK : va_K (dC, dI) vwCl [(cM, .object "Haltingale$Machine"), (cT, .object "Haltingale$Tag"), (cL, .long), (cD, .double)] s) (hP : va_P (dC, dI) vwCl [(x0, .inr (9, [.ref qm, .ref qt, .ref qw, .ref qc, .ref qb, .ref qg, .int 0, .int 0, .int 0, .int 0, .int 0])), (qm, .inl (cM, 12, .inr (.inr (.inr (.inr (fun _ => none)))))), (qt, .inl (cT, 4, .inr (.inr (.inr (.inr (fun _ => none)))))), (m0, .inr (12, [.int 0, .ref l1, .ref l2, .int 0, .int 0, .int 0, .long 0])), (l1, .inr (1, [.int 0, .ref a0, .int 0])), (l2, .inr (1, [.int 0, .ref a0, .int 0])), (qo, .inl (cL, 1, .inr (.inl (fun _ => 0)))), (qd, .inl (cD, 1, .inr (.inr (.inr (.inl (fun _ => 0))))))] H) (hD : va_D A [(x0, .inr (9, [.ref qm, .ref qt, .ref qw, .ref qc, .ref qb, .ref qg, .int 0, .int 0, .int 0, .int 0, .int 0])), (qm, .inl (cM, 12, .inr (.inr (.inr (.inr (fun _ => none)))))), (qt, .inl (cT, 4, .inr (.inr (.inr (.inr (fun _ => none)))))), (m0, .inr (12, [.int 0, .ref l1, .ref l2, .int 0, .int 0, .int 0, .long 0])), (l1, .inr (1, [.int 0, .ref a0, .int 0])), (l2, .inr (1, [.int 0, .ref a0, .int 0])), (qo, .inl (cL, 1, .inr (.inl (fun _ => 0)))), (qd, .inl (cD, 1, .inr (.inr (.inr (.inl (fun _ => 0))))))]) (hS : va_S A s.heap H locs) {ls : Array Slot} (hl : lv_has ls 10 [(5, .int 0), (4, .ref qd), (3, .ref qo), (2, .ref m0), (1, .ref x0), (0, .ref b)]) (hp : xs ((1 : Int32).toNatClampNeg) = 7) : W p l e room_1 s m #[Value.ref b] below meth c H locs 31 4324 (lw_Z below #[Value.ref b] s) (F0 m 1515 ls []) := by
  obtain ⟨hx, hb, hr, hml, hown, hts0, hX, hbl, hlocks, hgv⟩ := C0
  have hts : ∀ w ∈ zs_law, w.before #[Value.ref b] s = true := fun w h => hts0 w (zs_law_in w h)
  have hbA : ¬ A b := fun h => absurd (hA2 b h) (Nat.not_le.mpr hbl)
  refine lv_aload_n hx hb dL_law_1515 rfl (lv_at hl 4 rfl) ?_
  refine lv_aload_n hx hb dL_law_1516 rfl (lv_at hl 5 rfl) ?_
  refine lv_iload hx hb dL_law_1517 (lv_at hl 0 rfl) ?_
  refine lv_iconst (v := 1) hx hb dL_law_1519 (by decide) ?_
  refine lv_iadd hx hb dL_law_1520 ?_
  refine lv_topi (fun x_1 ex_1 => ?_)
  obtain rfl : x_1 = 1 := ex_1.trans (by decide)
  refine va_sld hx hb hX hbl hbA hS (by unfold vp_in; decide) dL_law_1521 ?_
  refine lv_topi (fun x_2 ex_2 => ?_)
  obtain rfl : x_2 = 7 := ex_2.trans (hp)
  refine lv_aload_n hx hb dL_law_1522 rfl (lv_at hl 2 rfl) ?_
  have hPc := hP.sub (ws' := [(x0, .inr (9, [.ref qm, .ref qt, .ref qw, .ref qc, .ref qb, .ref qg, .int 0, .int 0, .int 0, .int 0, .int 0])), (qo, .inl (cL, 1, .inr (.inl (fun _ => 0))))]) [0, 6] rfl
  have hDc := hD.sub (ws' := [(x0, .inr (9, [.ref qm, .ref qt, .ref qw, .ref qc, .ref qb, .ref qg, .int 0, .int 0, .int 0, .int 0, .int 0])), (qo, .inl (cL, 1, .inr (.inl (fun _ => 0))))]) [0, 6] (by decide) rfl
  have hKc := hK.sub (tys' := [(cL, .long)]) [2] rfl
  have hFc := va_free (wc := [(x0, .inr (9, [.ref qm, .ref qt, .ref qw, .ref qc, .ref qb, .ref qg, .int 0, .int 0, .int 0, .int 0, .int 0])), (qo, .inl (cL, 1, .inr (.inl (fun _ => 0))))]) hD hS hA [0, 6] rfl
  have hZc := ((hZ.kept hS.2.1).narrow hFc)
  refine va_calli (vx_runSW (As := [.ref x0, .int 7, .ref qo]) (rest := []) ⟨hx, hb, hml, hown, hts⟩ (c_L_many_7 l hnt dC dI a0 x0 qm qt qw qc qb qg qo cL H.size ) (vx_cwSW 3 hts (goodIn_of _ (by decide +kernel)) rfl rfl rfl (by decide +kernel) ⟨Nat.le_of_ble_eq_true rfl, Nat.le_of_ble_eq_true rfl⟩) ⟨fun a U g mk q => by obtain ⟨q0, q1, qP, qK, qD, qZ⟩ := q; exact ⟨q0, q1, qP, va_K.moved (u := U) (U := U.calling g mk a) (Vm.Alike.refl U.vm) qK, qD, qZ.call⟩, fun U hU hW => ⟨rfl, by rw [hU], by rw [hU]; exact hPc, va_K.moved hW.alike hKc, hDc.weaken (fun _ _ _ _ => trivial), by rw [hU]; exact hZc.warm hW⟩⟩ rfl rfl hl.1 rfl (lv_room (Nat.le_of_ble_eq_true rfl)) dL_law_1523 ⟨Nat.le_of_ble_eq_true rfl, Nat.le_of_ble_eq_true rfl⟩) hS (fun q _ h => hFc q h) hFc (fun r_3 u t H1 locs ht hvm hw hB hz1 hk1 hS => ?_)
  obtain ⟨hP1, hK1, hD1⟩ := hB
  rw [ht] at hP1
  have hK1 := va_K.moved hvm.symm hK1
  obtain ⟨hP, hD⟩ := va_join (wr := [(qm, .inl (cM, 12, .inr (.inr (.inr (.inr (fun _ => none)))))), (qt, .inl (cT, 4, .inr (.inr (.inr (.inr (fun _ => none)))))), (m0, .inr (12, [.int 0, .ref l1, .ref l2, .int 0, .int 0, .int 0, .long 0])), (l1, .inr (1, [.int 0, .ref a0, .int 0])), (l2, .inr (1, [.int 0, .ref a0, .int 0])), (qd, .inl (cD, 1, .inr (.inr (.inr (.inl (fun _ => 0))))))]) (w1 := [(qo, .inl (cL, 1, .inr (.inl (vp_updL (fun _ => 0) ((0 : Int32).toNatClampNeg) 0))))]) hP hD [0, 6] [1, 2, 3, 4, 5, 7] rfl rfl (by decide) (by decide) hk1 hFc hP1 hD1
  have hK := (hK.sub (tys' := [(cM, .object "Haltingale$Machine"), (cT, .object "Haltingale$Tag"), (cL, .long), (cD, .double)]) [0, 1, 2, 3] rfl).app hK1
  generalize H1 = H at hP hS ⊢
  have hP : va_P (dC, dI) vwCl [(qm, .inl (cM, 12, .inr (.inr (.inr (.inr (fun _ => none)))))), (qt, .inl (cT, 4, .inr (.inr (.inr (.inr (fun _ => none)))))), (m0, .inr (12, [.int 0, .ref l1, .ref l2, .int 0, .int 0, .int 0, .long 0])), (l1, .inr (1, [.int 0, .ref a0, .int 0])), (l2, .inr (1, [.int 0, .ref a0, .int 0])), (qd, .inl (cD, 1, .inr (.inr (.inr (.inl (fun _ => 0)))))), (qo, .inl (cL, 1, .inr (.inl (vp_updL (fun _ => 0) ((0 : Int32).toNatClampNeg) 0))))] H := hP
  have hD : va_D A [(qm, .inl (cM, 12, .inr (.inr (.inr (.inr (fun _ => none)))))), (qt, .inl (cT, 4, .inr (.inr (.inr (.inr (fun _ => none)))))), (m0, .inr (12, [.int 0, .ref l1, .ref l2, .int 0, .int 0, .int 0, .long 0])), (l1, .inr (1, [.int 0, .ref a0, .int 0])), (l2, .inr (1, [.int 0, .ref a0, .int 0])), (qd, .inl (cD, 1, .inr (.inr (.inr (.inl (fun _ => 0)))))), (qo, .inl (cL, 1, .inr (.inl (vp_updL (fun _ => 0) ((0 : Int32).toNatClampNeg) 0))))] := hD
  have hK : va_K (dC, dI) vwCl [(cM, .object "Haltingale$Machine"), (cT, .object "Haltingale$Tag"), (cL, .long), (cD, .double), (cL, .long)] s := hK
  refine W.widen (k := 31) (n := 4324) (Nat.le_of_ble_eq_true rfl) (Nat.le_of_ble_eq_true rfl) ?_
  obtain rfl : r_3 = 0 := hw
  refine lv_istore (lv' := [(6, .int 0), (5, .int 0), (4, .ref qd), (3, .ref qo), (2, .ref m0), (1, .ref x0), (0, .ref b)]) hx hb dL_law_1526 hl (by decide) rfl (fun ls hl => ?_)
  refine lv_aload_n hx hb dL_law_1528 rfl (lv_at hl 4 rfl) ?_
  refine lv_aload_n hx hb dL_law_1529 rfl (lv_at hl 6 rfl) ?_
  refine lv_iload hx hb dL_law_1530 (lv_at hl 1 rfl) ?_
  refine lv_iconst (v := 1) hx hb dL_law_1532 (by decide) ?_
  refine lv_iadd hx hb dL_law_1533 ?_
  refine lv_topi (fun x_4 ex_4 => ?_)
  obtain rfl : x_4 = 1 := ex_4.trans (by decide)
  refine va_sld hx hb hX hbl hbA hS (by unfold vp_in; decide) dL_law_1534 ?_
  refine lv_topi (fun x_5 ex_5 => ?_)
  obtain rfl : x_5 = 7 := ex_5.trans (hp)
  have hPc := hP.sub (ws' := [(m0, .inr (12, [.int 0, .ref l1, .ref l2, .int 0, .int 0, .int 0, .long 0])), (l1, .inr (1, [.int 0, .ref a0, .int 0])), (l2, .inr (1, [.int 0, .ref a0, .int 0]))]) [2, 3, 4] rfl
  have hDc := hD.sub (ws' := [(m0, .inr (12, [.int 0, .ref l1, .ref l2, .int 0, .int 0, .int 0, .long 0])), (l1, .inr (1, [.int 0, .ref a0, .int 0])), (l2, .inr (1, [.int 0, .ref a0, .int 0]))]) [2, 3, 4] (by decide) rfl
  have hKc := hK.sub (tys' := []) [] rfl
  have hFc := va_free (wc := [(m0, .inr (12, [.int 0, .ref l1, .ref l2, .int 0, .int 0, .int 0, .long 0])), (l1, .inr (1, [.int 0, .ref a0, .int 0])), (l2, .inr (1, [.int 0, .ref a0, .int 0]))]) hD hS hA [2, 3, 4] rfl
  have hZc := ((hZ.kept hS.2.1).narrow hFc)
  refine va_calli (va_runV (As := [.int 7]) (rest := []) ⟨hx, hb, hml, hown, hts⟩ (c_X10_many_7 l hnt dC dI a0 m0 l1 l2 H.size ) (cwV 1 hts (goodIn_of _ (by decide +kernel)) rfl rfl rfl (by decide +kernel) ⟨Nat.le_of_ble_eq_true rfl, Nat.le_of_ble_eq_true rfl⟩) ⟨fun a U g mk q => by obtain ⟨q0, q1, qP, qK, qD, qZ⟩ := q; exact ⟨q0, q1, qP, va_K.moved (u := U) (U := U.calling g mk a) (Vm.Alike.refl U.vm) qK, qD, qZ.call⟩, va_recv hKc hPc (ci := 12) (q0 := 0) rfl rfl, fun U hU hW => ⟨rfl, by rw [hU], by rw [hU]; exact hPc, va_K.moved hW.alike hKc, hDc.weaken (fun _ _ _ _ => trivial), by rw [hU]; exact hZc.warm hW⟩⟩ rfl rfl hl.1 rfl (lv_room (Nat.le_of_ble_eq_true rfl)) dL_law_1535 ⟨Nat.le_of_ble_eq_true rfl, Nat.le_of_ble_eq_true rfl⟩) hS (fun q _ h => hFc q h) hFc (fun r_6 u t H1 locs ht hvm hw hB hz1 hk1 hS => ?_)
  obtain ⟨hP1, hK1, hD1⟩ := hB
  rw [ht] at hP1
  have hK1 := va_K.moved hvm.symm hK1
  obtain ⟨hP, hD⟩ := va_join (wr := [(qm, .inl (cM, 12, .inr (.inr (.inr (.inr (fun _ => none)))))), (qt, .inl (cT, 4, .inr (.inr (.inr (.inr (fun _ => none)))))), (qd, .inl (cD, 1, .inr (.inr (.inr (.inl (fun _ => 0)))))), (qo, .inl (cL, 1, .inr (.inl (vp_updL (fun _ => 0) ((0 : Int32).toNatClampNeg) 0))))]) (w1 := [(m0, .inr (12, [.int 0, .ref l1, .ref l2, .int 0, .int 0, .int 0, .long 0]))]) hP hD [2, 3, 4] [0, 1, 5, 6] rfl rfl (by decide) (by decide) hk1 hFc hP1 hD1
  have hK := (hK.sub (tys' := [(cM, .object "Haltingale$Machine"), (cT, .object "Haltingale$Tag"), (cL, .long), (cD, .double), (cL, .long)]) [0, 1, 2, 3, 4] rfl).app hK1
  generalize H1 = H at hP hS ⊢
  have hP : va_P (dC, dI) vwCl [(qm, .inl (cM, 12, .inr (.inr (.inr (.inr (fun _ => none)))))), (qt, .inl (cT, 4, .inr (.inr (.inr (.inr (fun _ => none)))))), (qd, .inl (cD, 1, .inr (.inr (.inr (.inl (fun _ => 0)))))), (qo, .inl (cL, 1, .inr (.inl (vp_updL (fun _ => 0) ((0 : Int32).toNatClampNeg) 0)))), (m0, .inr (12, [.int 0, .ref l1, .ref l2, .int 0, .int 0, .int 0, .long 0]))] H := hP
  have hD : va_D A [(qm, .inl (cM, 12, .inr (.inr (.inr (.inr (fun _ => none)))))), (qt, .inl (cT, 4, .inr (.inr (.inr (.inr (fun _ => none)))))), (qd, .inl (cD, 1, .inr (.inr (.inr (.inl (fun _ => 0)))))), (qo, .inl (cL, 1, .inr (.inl (vp_updL (fun _ => 0) ((0 : Int32).toNatClampNeg) 0)))), (m0, .inr (12, [.int 0, .ref l1, .ref l2, .int 0, .int 0, .int 0, .long 0]))] := hD
  have hK : va_K (dC, dI) vwCl [(cM, .object "Haltingale$Machine"), (cT, .object "Haltingale$Tag"), (cL, .long), (cD, .double), (cL, .long)] s := hK
  refine W.widen (k := 34) (n := 4344) (Nat.le_of_ble_eq_true rfl) (Nat.le_of_ble_eq_true rfl) ?_
  obtain rfl : r_6 = 0 := hw
  refine lv_istore (lv' := [(7, .int 0), (6, .int 0), (5, .int 0), (4, .ref qd), (3, .ref qo), (2, .ref m0), (1, .ref x0), (0, .ref b)]) hx hb dL_law_1538 hl (by decide) rfl (fun ls hl => ?_)
  refine lv_aload_n hx hb dL_law_1540 rfl (lv_at hl 5 rfl) ?_
  have hPc := hP.sub (ws' := [(m0, .inr (12, [.int 0, .ref l1, .ref l2, .int 0, .int 0, .int 0, .long 0]))]) [4] rfl
  have hDc := hD.sub (ws' := [(m0, .inr (12, [.int 0, .ref l1, .ref l2, .int 0, .int 0, .int 0, .long 0]))]) [4] (by decide) rfl
  have hKc := hK.sub (tys' := []) [] rfl
  have hFc := va_free (wc := [(m0, .inr (12, [.int 0, .ref l1, .ref l2, .int 0, .int 0, .int 0, .long 0]))]) hD hS hA [4] rfl
  have hZc := ((hZ.kept hS.2.1).narrow hFc)
  refine va_calli (va_runV (As := []) (rest := []) ⟨hx, hb, hml, hown, hts⟩ (c_X10_thrown l hnt dC dI a0 m0 l1 l2 0 H.size ) (cwV 0 hts (goodIn_of _ (by decide +kernel)) rfl rfl rfl (by decide +kernel) ⟨Nat.le_of_ble_eq_true rfl, Nat.le_of_ble_eq_true rfl⟩) ⟨fun a U g mk q => by obtain ⟨q0, q1, qP, qK, qD, qZ⟩ := q; exact ⟨q0, q1, qP, va_K.moved (u := U) (U := U.calling g mk a) (Vm.Alike.refl U.vm) qK, qD, qZ.call⟩, va_recv hKc hPc (ci := 12) (q0 := 0) rfl rfl, fun U hU hW => ⟨rfl, by rw [hU], by rw [hU]; exact hPc, va_K.moved hW.alike hKc, hDc.weaken (fun _ _ _ _ => trivial), by rw [hU]; exact hZc.warm hW⟩⟩ rfl rfl hl.1 rfl (lv_room (Nat.le_of_ble_eq_true rfl)) dL_law_1541 ⟨Nat.le_of_ble_eq_true rfl, Nat.le_of_ble_eq_true rfl⟩) hS (fun q _ h => hFc q h) hFc (fun r_7 u t H1 locs ht hvm hw hB hz1 hk1 hS => ?_)
  obtain ⟨hP1, hK1, hD1⟩ := hB
  rw [ht] at hP1
  have hK1 := va_K.moved hvm.symm hK1
  obtain ⟨hP, hD⟩ := va_join (wr := [(qm, .inl (cM, 12, .inr (.inr (.inr (.inr (fun _ => none)))))), (qt, .inl (cT, 4, .inr (.inr (.inr (.inr (fun _ => none)))))), (qd, .inl (cD, 1, .inr (.inr (.inr (.inl (fun _ => 0)))))), (qo, .inl (cL, 1, .inr (.inl (vp_updL (fun _ => 0) ((0 : Int32).toNatClampNeg) 0))))]) (w1 := []) hP hD [4] [0, 1, 2, 3] rfl rfl (by decide) (by decide) hk1 hFc hP1 hD1
  have hK := (hK.sub (tys' := [(cM, .object "Haltingale$Machine"), (cT, .object "Haltingale$Tag"), (cL, .long), (cD, .double), (cL, .long)]) [0, 1, 2, 3, 4] rfl).app hK1
  generalize H1 = H at hP hS ⊢
  have hP : va_P (dC, dI) vwCl [(qm, .inl (cM, 12, .inr (.inr (.inr (.inr (fun _ => none)))))), (qt, .inl (cT, 4, .inr (.inr (.inr (.inr (fun _ => none)))))), (qd, .inl (cD, 1, .inr (.inr (.inr (.inl (fun _ => 0)))))), (qo, .inl (cL, 1, .inr (.inl (vp_updL (fun _ => 0) ((0 : Int32).toNatClampNeg) 0))))] H := hP
  have hD : va_D A [(qm, .inl (cM, 12, .inr (.inr (.inr (.inr (fun _ => none)))))), (qt, .inl (cT, 4, .inr (.inr (.inr (.inr (fun _ => none)))))), (qd, .inl (cD, 1, .inr (.inr (.inr (.inl (fun _ => 0)))))), (qo, .inl (cL, 1, .inr (.inl (vp_updL (fun _ => 0) ((0 : Int32).toNatClampNeg) 0))))] := hD
  have hK : va_K (dC, dI) vwCl [(cM, .object "Haltingale$Machine"), (cT, .object "Haltingale$Tag"), (cL, .long), (cD, .double), (cL, .long)] s := hK
  refine W.widen (k := 34) (n := 4344) (Nat.le_of_ble_eq_true rfl) (Nat.le_of_ble_eq_true rfl) ?_
  obtain rfl : r_7 = 0 := hw
  refine lv_iload hx hb dL_law_1544 (lv_at hl 1 rfl) ?_
  refine lv_icmp_eq (tgt := 1551) hx hb dL_law_1546 (by decide) (fun c_8 => ?_) (fun c_8 => ?_)
  rotate_left
  · (first | exact absurd c_8 (by decide) | exact absurd (by decide) c_8)
  refine lv_iload hx hb dL_law_1551 (lv_at hl 1 rfl) ?_
  refine lv_if_ne (tgt := 1568) hx hb dL_law_1553 (by decide) (fun c_9 => ?_) (fun c_9 => ?_)
  · (first | exact absurd c_9 (by decide) | exact absurd (by decide) c_9)
  refine lv_aload_n hx hb dL_law_1556 rfl (lv_at hl 4 rfl) ?_
  refine lv_iconst (v := 0) hx hb dL_law_1557 (by decide) ?_
  refine va_lald hx hb hK hP 3 2 rfl rfl (by unfold vp_in; decide) dL_law_1558 ?_
  refine lv_topl (fun y_10 ey_10 => ?_)
  obtain rfl : y_10 = 0 := ey_10.trans (by decide +kernel)
  refine lv_iload hx hb dL_law_1559 (lv_at hl 0 rfl) ?_
  refine lv_i2l (v := 0) hx hb dL_law_1561 (by decide) ?_
  refine W.lcmp hx hb dL_law_1562 ?_
  refine lv_topi (fun x_11 ex_11 => ?_)
  obtain rfl : x_11 = 0 := ex_11.trans (by decide +kernel)
  refine lv_if_eq (tgt := 1568) hx hb dL_law_1563 (by decide) (fun c_12 => ?_) (fun c_12 => ?_)
  rotate_left
  · (first | exact absurd c_12 (by decide) | exact absurd (by decide) c_12)
  refine lv_goto (tgt := 1806) hx hb dL_law_1568 (by decide) ?_
  refine lv_iinc (v := 7) (lv' := [(5, .int 7), (7, .int 0), (6, .int 0), (4, .ref qd), (3, .ref qo), (2, .ref m0), (1, .ref x0), (0, .ref b)]) hx hb dL_law_1806 hl (k := 2) rfl (by decide) (by decide) rfl (fun ls hl => ?_)
  refine lv_goto (tgt := 28) hx hb dL_law_1809 (by decide) ?_
  refine lv_iload hx hb dL_law_28 (lv_at hl 0 rfl) ?_
  refine lv_aload_n hx hb dL_law_30 rfl (lv_at hl 7 rfl) ?_
  refine va_slen hx hb hX hbl hbA hS dL_law_31 ?_
  refine lv_topi (fun x_13 ex_13 => ?_)
  obtain rfl : x_13 = 7 := ex_13.trans (by decide)
  refine lv_bipush (v := 7) hx hb dL_law_32 (by decide) ?_
  refine lv_isub hx hb dL_law_34 ?_
  refine lv_topi (fun x_14 ex_14 => ?_)
  obtain rfl : x_14 = 0 := ex_14.trans (by decide)
  refine lv_icmp_gt (tgt := 1812) hx hb dL_law_35 (by decide) (fun c_15 => ?_) (fun c_15 => ?_)
  rotate_left
  · (first | exact absurd c_15 (by decide) | exact absurd (by decide) c_15)
  refine lv_iconst (v := 1) hx hb dL_law_1812 (by decide) ?_
  refine va_forget (fun q hq => hA2 _ (hS.2.2 q hq)) ?_
  refine W.widen (k := room_1.cells) (n := room_1.slots) (Nat.le_of_ble_eq_true rfl) (Nat.le_of_ble_eq_true rfl) ?_
  exact lw_ret0 hx hb hr hlocks dL_law_1813

set_option maxHeartbeats 4000000 in
set_option maxRecDepth 100000 in
/-- the law, case 17 -/
theorem law_17_8 {p : Program} {l : Launch} (hnt : l.stackTraces = false) {e : Env} {s : State} {m : MethodId} {below : List Frame} {meth : Method} {c : Code} {dC : Nat → ClassId} {dI : Nat → Nat → Nat} {a0 b : Nat} {xs : Nat → Int32} (C0 : lw_At p s m meth c b 7 xs) {A : Nat → Prop} (hA : ∀ q : Nat, s.heap.size ≤ q → A q) (hA2 : ∀ q : Nat, A q → s.heap.size ≤ q) (hZ : zB a0 A s s.heap) {x0 : Nat} {qm : Nat} {qt : Nat} {qw : Nat} {qc : Nat} {qb : Nat} {qg : Nat} {m0 : Nat} {l1 : Nat} {l2 : Nat} {qo : Nat} {qd : Nat} {cM : ClassId} {cT : ClassId} {cL : ClassId} {cD : ClassId} {H : Heap} {locs : List Loc} (hK : va_K (dC, dI) vwCl [(cM, .object "Haltingale$Machine"), (cT, .object "Haltingale$Tag"), (cL, .long), (cD, .double)] s) (hP : va_P (dC, dI) vwCl [(x0, .inr (9, [.ref qm, .ref qt, .ref qw, .ref qc, .ref qb, .ref qg, .int 0, .int 0, .int 0, .int 0, .int 0])), (qm, .inl (cM, 12, .inr (.inr (.inr (.inr (fun _ => none)))))), (qt, .inl (cT, 4, .inr (.inr (.inr (.inr (fun _ => none)))))), (m0, .inr (12, [.int 0, .ref l1, .ref l2, .int 0, .int 0, .int 0, .long 0])), (l1, .inr (1, [.int 0, .ref a0, .int 0])), (l2, .inr (1, [.int 0, .ref a0, .int 0])), (qo, .inl (cL, 1, .inr (.inl (fun _ => 0)))), (qd, .inl (cD, 1, .inr (.inr (.inr (.inl (fun _ => 0))))))] H) (hD : va_D A [(x0, .inr (9, [.ref qm, .ref qt, .ref qw, .ref qc, .ref qb, .ref qg, .int 0, .int 0, .int 0, .int 0, .int 0])), (qm, .inl (cM, 12, .inr (.inr (.inr (.inr (fun _ => none)))))), (qt, .inl (cT, 4, .inr (.inr (.inr (.inr (fun _ => none)))))), (m0, .inr (12, [.int 0, .ref l1, .ref l2, .int 0, .int 0, .int 0, .long 0])), (l1, .inr (1, [.int 0, .ref a0, .int 0])), (l2, .inr (1, [.int 0, .ref a0, .int 0])), (qo, .inl (cL, 1, .inr (.inl (fun _ => 0)))), (qd, .inl (cD, 1, .inr (.inr (.inr (.inl (fun _ => 0))))))]) (hS : va_S A s.heap H locs) {ls : Array Slot} (hl : lv_has ls 10 [(5, .int 0), (4, .ref qd), (3, .ref qo), (2, .ref m0), (1, .ref x0), (0, .ref b)]) (hp : xs ((1 : Int32).toNatClampNeg) = 8) : W p l e room_1 s m #[Value.ref b] below meth c H locs 31 4324 (lw_Z below #[Value.ref b] s) (F0 m 1515 ls []) := by
  obtain ⟨hx, hb, hr, hml, hown, hts0, hX, hbl, hlocks, hgv⟩ := C0
  have hts : ∀ w ∈ zs_law, w.before #[Value.ref b] s = true := fun w h => hts0 w (zs_law_in w h)
  have hbA : ¬ A b := fun h => absurd (hA2 b h) (Nat.not_le.mpr hbl)
  refine lv_aload_n hx hb dL_law_1515 rfl (lv_at hl 4 rfl) ?_
  refine lv_aload_n hx hb dL_law_1516 rfl (lv_at hl 5 rfl) ?_
  refine lv_iload hx hb dL_law_1517 (lv_at hl 0 rfl) ?_
  refine lv_iconst (v := 1) hx hb dL_law_1519 (by decide) ?_
  refine lv_iadd hx hb dL_law_1520 ?_
  refine lv_topi (fun x_1 ex_1 => ?_)
  obtain rfl : x_1 = 1 := ex_1.trans (by decide)
  refine va_sld hx hb hX hbl hbA hS (by unfold vp_in; decide) dL_law_1521 ?_
  refine lv_topi (fun x_2 ex_2 => ?_)
  obtain rfl : x_2 = 8 := ex_2.trans (hp)
  refine lv_aload_n hx hb dL_law_1522 rfl (lv_at hl 2 rfl) ?_
  have hPc := hP.sub (ws' := [(x0, .inr (9, [.ref qm, .ref qt, .ref qw, .ref qc, .ref qb, .ref qg, .int 0, .int 0, .int 0, .int 0, .int 0])), (qo, .inl (cL, 1, .inr (.inl (fun _ => 0))))]) [0, 6] rfl
  have hDc := hD.sub (ws' := [(x0, .inr (9, [.ref qm, .ref qt, .ref qw, .ref qc, .ref qb, .ref qg, .int 0, .int 0, .int 0, .int 0, .int 0])), (qo, .inl (cL, 1, .inr (.inl (fun _ => 0))))]) [0, 6] (by decide) rfl
  have hKc := hK.sub (tys' := [(cL, .long)]) [2] rfl
  have hFc := va_free (wc := [(x0, .inr (9, [.ref qm, .ref qt, .ref qw, .ref qc, .ref qb, .ref qg, .int 0, .int 0, .int 0, .int 0, .int 0])), (qo, .inl (cL, 1, .inr (.inl (fun _ => 0))))]) hD hS hA [0, 6] rfl
  have hZc := ((hZ.kept hS.2.1).narrow hFc)
  refine va_calli (vx_runSW (As := [.ref x0, .int 8, .ref qo]) (rest := []) ⟨hx, hb, hml, hown, hts⟩ (c_L_many_8 l hnt dC dI a0 x0 qm qt qw qc qb qg qo cL H.size ) (vx_cwSW 3 hts (goodIn_of _ (by decide +kernel)) rfl rfl rfl (by decide +kernel) ⟨Nat.le_of_ble_eq_true rfl, Nat.le_of_ble_eq_true rfl⟩) ⟨fun a U g mk q => by obtain ⟨q0, q1, qP, qK, qD, qZ⟩ := q; exact ⟨q0, q1, qP, va_K.moved (u := U) (U := U.calling g mk a) (Vm.Alike.refl U.vm) qK, qD, qZ.call⟩, fun U hU hW => ⟨rfl, by rw [hU], by rw [hU]; exact hPc, va_K.moved hW.alike hKc, hDc.weaken (fun _ _ _ _ => trivial), by rw [hU]; exact hZc.warm hW⟩⟩ rfl rfl hl.1 rfl (lv_room (Nat.le_of_ble_eq_true rfl)) dL_law_1523 ⟨Nat.le_of_ble_eq_true rfl, Nat.le_of_ble_eq_true rfl⟩) hS (fun q _ h => hFc q h) hFc (fun r_3 u t H1 locs ht hvm hw hB hz1 hk1 hS => ?_)
  obtain ⟨hP1, hK1, hD1⟩ := hB
  rw [ht] at hP1
  have hK1 := va_K.moved hvm.symm hK1
  obtain ⟨hP, hD⟩ := va_join (wr := [(qm, .inl (cM, 12, .inr (.inr (.inr (.inr (fun _ => none)))))), (qt, .inl (cT, 4, .inr (.inr (.inr (.inr (fun _ => none)))))), (m0, .inr (12, [.int 0, .ref l1, .ref l2, .int 0, .int 0, .int 0, .long 0])), (l1, .inr (1, [.int 0, .ref a0, .int 0])), (l2, .inr (1, [.int 0, .ref a0, .int 0])), (qd, .inl (cD, 1, .inr (.inr (.inr (.inl (fun _ => 0))))))]) (w1 := [(qo, .inl (cL, 1, .inr (.inl (vp_updL (fun _ => 0) ((0 : Int32).toNatClampNeg) 0))))]) hP hD [0, 6] [1, 2, 3, 4, 5, 7] rfl rfl (by decide) (by decide) hk1 hFc hP1 hD1
  have hK := (hK.sub (tys' := [(cM, .object "Haltingale$Machine"), (cT, .object "Haltingale$Tag"), (cL, .long), (cD, .double)]) [0, 1, 2, 3] rfl).app hK1
  generalize H1 = H at hP hS ⊢
  have hP : va_P (dC, dI) vwCl [(qm, .inl (cM, 12, .inr (.inr (.inr (.inr (fun _ => none)))))), (qt, .inl (cT, 4, .inr (.inr (.inr (.inr (fun _ => none)))))), (m0, .inr (12, [.int 0, .ref l1, .ref l2, .int 0, .int 0, .int 0, .long 0])), (l1, .inr (1, [.int 0, .ref a0, .int 0])), (l2, .inr (1, [.int 0, .ref a0, .int 0])), (qd, .inl (cD, 1, .inr (.inr (.inr (.inl (fun _ => 0)))))), (qo, .inl (cL, 1, .inr (.inl (vp_updL (fun _ => 0) ((0 : Int32).toNatClampNeg) 0))))] H := hP
  have hD : va_D A [(qm, .inl (cM, 12, .inr (.inr (.inr (.inr (fun _ => none)))))), (qt, .inl (cT, 4, .inr (.inr (.inr (.inr (fun _ => none)))))), (m0, .inr (12, [.int 0, .ref l1, .ref l2, .int 0, .int 0, .int 0, .long 0])), (l1, .inr (1, [.int 0, .ref a0, .int 0])), (l2, .inr (1, [.int 0, .ref a0, .int 0])), (qd, .inl (cD, 1, .inr (.inr (.inr (.inl (fun _ => 0)))))), (qo, .inl (cL, 1, .inr (.inl (vp_updL (fun _ => 0) ((0 : Int32).toNatClampNeg) 0))))] := hD
  have hK : va_K (dC, dI) vwCl [(cM, .object "Haltingale$Machine"), (cT, .object "Haltingale$Tag"), (cL, .long), (cD, .double), (cL, .long)] s := hK
  refine W.widen (k := 31) (n := 4324) (Nat.le_of_ble_eq_true rfl) (Nat.le_of_ble_eq_true rfl) ?_
  obtain rfl : r_3 = 0 := hw
  refine lv_istore (lv' := [(6, .int 0), (5, .int 0), (4, .ref qd), (3, .ref qo), (2, .ref m0), (1, .ref x0), (0, .ref b)]) hx hb dL_law_1526 hl (by decide) rfl (fun ls hl => ?_)
  refine lv_aload_n hx hb dL_law_1528 rfl (lv_at hl 4 rfl) ?_
  refine lv_aload_n hx hb dL_law_1529 rfl (lv_at hl 6 rfl) ?_
  refine lv_iload hx hb dL_law_1530 (lv_at hl 1 rfl) ?_
  refine lv_iconst (v := 1) hx hb dL_law_1532 (by decide) ?_
  refine lv_iadd hx hb dL_law_1533 ?_
  refine lv_topi (fun x_4 ex_4 => ?_)
  obtain rfl : x_4 = 1 := ex_4.trans (by decide)
  refine va_sld hx hb hX hbl hbA hS (by unfold vp_in; decide) dL_law_1534 ?_
  refine lv_topi (fun x_5 ex_5 => ?_)
  obtain rfl : x_5 = 8 := ex_5.trans (hp)
  have hPc := hP.sub (ws' := [(m0, .inr (12, [.int 0, .ref l1, .ref l2, .int 0, .int 0, .int 0, .long 0])), (l1, .inr (1, [.int 0, .ref a0, .int 0])), (l2, .inr (1, [.int 0, .ref a0, .int 0]))]) [2, 3, 4] rfl
  have hDc := hD.sub (ws' := [(m0, .inr (12, [.int 0, .ref l1, .ref l2, .int 0, .int 0, .int 0, .long 0])), (l1, .inr (1, [.int 0, .ref a0, .int 0])), (l2, .inr (1, [.int 0, .ref a0, .int 0]))]) [2, 3, 4] (by decide) rfl
  have hKc := hK.sub (tys' := []) [] rfl
  have hFc := va_free (wc := [(m0, .inr (12, [.int 0, .ref l1, .ref l2, .int 0, .int 0, .int 0, .long 0])), (l1, .inr (1, [.int 0, .ref a0, .int 0])), (l2, .inr (1, [.int 0, .ref a0, .int 0]))]) hD hS hA [2, 3, 4] rfl
  have hZc := ((hZ.kept hS.2.1).narrow hFc)
  refine va_calli (va_runV (As := [.int 8]) (rest := []) ⟨hx, hb, hml, hown, hts⟩ (c_X10_many_8 l hnt dC dI a0 m0 l1 l2 H.size ) (cwV 1 hts (goodIn_of _ (by decide +kernel)) rfl rfl rfl (by decide +kernel) ⟨Nat.le_of_ble_eq_true rfl, Nat.le_of_ble_eq_true rfl⟩) ⟨fun a U g mk q => by obtain ⟨q0, q1, qP, qK, qD, qZ⟩ := q; exact ⟨q0, q1, qP, va_K.moved (u := U) (U := U.calling g mk a) (Vm.Alike.refl U.vm) qK, qD, qZ.call⟩, va_recv hKc hPc (ci := 12) (q0 := 0) rfl rfl, fun U hU hW => ⟨rfl, by rw [hU], by rw [hU]; exact hPc, va_K.moved hW.alike hKc, hDc.weaken (fun _ _ _ _ => trivial), by rw [hU]; exact hZc.warm hW⟩⟩ rfl rfl hl.1 rfl (lv_room (Nat.le_of_ble_eq_true rfl)) dL_law_1535 ⟨Nat.le_of_ble_eq_true rfl, Nat.le_of_ble_eq_true rfl⟩) hS (fun q _ h => hFc q h) hFc (fun r_6 u t H1 locs ht hvm hw hB hz1 hk1 hS => ?_)
  obtain ⟨hP1, hK1, hD1⟩ := hB
  rw [ht] at hP1
  have hK1 := va_K.moved hvm.symm hK1
  obtain ⟨hP, hD⟩ := va_join (wr := [(qm, .inl (cM, 12, .inr (.inr (.inr (.inr (fun _ => none)))))), (qt, .inl (cT, 4, .inr (.inr (.inr (.inr (fun _ => none)))))), (qd, .inl (cD, 1, .inr (.inr (.inr (.inl (fun _ => 0)))))), (qo, .inl (cL, 1, .inr (.inl (vp_updL (fun _ => 0) ((0 : Int32).toNatClampNeg) 0))))]) (w1 := [(m0, .inr (12, [.int 0, .ref l1, .ref l2, .int 0, .int 0, .int 0, .long 0]))]) hP hD [2, 3, 4] [0, 1, 5, 6] rfl rfl (by decide) (by decide) hk1 hFc hP1 hD1
  have hK := (hK.sub (tys' := [(cM, .object "Haltingale$Machine"), (cT, .object "Haltingale$Tag"), (cL, .long), (cD, .double), (cL, .long)]) [0, 1, 2, 3, 4] rfl).app hK1
  generalize H1 = H at hP hS ⊢
  have hP : va_P (dC, dI) vwCl [(qm, .inl (cM, 12, .inr (.inr (.inr (.inr (fun _ => none)))))), (qt, .inl (cT, 4, .inr (.inr (.inr (.inr (fun _ => none)))))), (qd, .inl (cD, 1, .inr (.inr (.inr (.inl (fun _ => 0)))))), (qo, .inl (cL, 1, .inr (.inl (vp_updL (fun _ => 0) ((0 : Int32).toNatClampNeg) 0)))), (m0, .inr (12, [.int 0, .ref l1, .ref l2, .int 0, .int 0, .int 0, .long 0]))] H := hP
  have hD : va_D A [(qm, .inl (cM, 12, .inr (.inr (.inr (.inr (fun _ => none)))))), (qt, .inl (cT, 4, .inr (.inr (.inr (.inr (fun _ => none)))))), (qd, .inl (cD, 1, .inr (.inr (.inr (.inl (fun _ => 0)))))), (qo, .inl (cL, 1, .inr (.inl (vp_updL (fun _ => 0) ((0 : Int32).toNatClampNeg) 0)))), (m0, .inr (12, [.int 0, .ref l1, .ref l2, .int 0, .int 0, .int 0, .long 0]))] := hD
  have hK : va_K (dC, dI) vwCl [(cM, .object "Haltingale$Machine"), (cT, .object "Haltingale$Tag"), (cL, .long), (cD, .double), (cL, .long)] s := hK
  refine W.widen (k := 34) (n := 4344) (Nat.le_of_ble_eq_true rfl) (Nat.le_of_ble_eq_true rfl) ?_
  obtain rfl : r_6 = 0 := hw
  refine lv_istore (lv' := [(7, .int 0), (6, .int 0), (5, .int 0), (4, .ref qd), (3, .ref qo), (2, .ref m0), (1, .ref x0), (0, .ref b)]) hx hb dL_law_1538 hl (by decide) rfl (fun ls hl => ?_)
  refine lv_aload_n hx hb dL_law_1540 rfl (lv_at hl 5 rfl) ?_
  have hPc := hP.sub (ws' := [(m0, .inr (12, [.int 0, .ref l1, .ref l2, .int 0, .int 0, .int 0, .long 0]))]) [4] rfl
  have hDc := hD.sub (ws' := [(m0, .inr (12, [.int 0, .ref l1, .ref l2, .int 0, .int 0, .int 0, .long 0]))]) [4] (by decide) rfl
  have hKc := hK.sub (tys' := []) [] rfl
  have hFc := va_free (wc := [(m0, .inr (12, [.int 0, .ref l1, .ref l2, .int 0, .int 0, .int 0, .long 0]))]) hD hS hA [4] rfl
  have hZc := ((hZ.kept hS.2.1).narrow hFc)
  refine va_calli (va_runV (As := []) (rest := []) ⟨hx, hb, hml, hown, hts⟩ (c_X10_thrown l hnt dC dI a0 m0 l1 l2 0 H.size ) (cwV 0 hts (goodIn_of _ (by decide +kernel)) rfl rfl rfl (by decide +kernel) ⟨Nat.le_of_ble_eq_true rfl, Nat.le_of_ble_eq_true rfl⟩) ⟨fun a U g mk q => by obtain ⟨q0, q1, qP, qK, qD, qZ⟩ := q; exact ⟨q0, q1, qP, va_K.moved (u := U) (U := U.calling g mk a) (Vm.Alike.refl U.vm) qK, qD, qZ.call⟩, va_recv hKc hPc (ci := 12) (q0 := 0) rfl rfl, fun U hU hW => ⟨rfl, by rw [hU], by rw [hU]; exact hPc, va_K.moved hW.alike hKc, hDc.weaken (fun _ _ _ _ => trivial), by rw [hU]; exact hZc.warm hW⟩⟩ rfl rfl hl.1 rfl (lv_room (Nat.le_of_ble_eq_true rfl)) dL_law_1541 ⟨Nat.le_of_ble_eq_true rfl, Nat.le_of_ble_eq_true rfl⟩) hS (fun q _ h => hFc q h) hFc (fun r_7 u t H1 locs ht hvm hw hB hz1 hk1 hS => ?_)
  obtain ⟨hP1, hK1, hD1⟩ := hB
  rw [ht] at hP1
  have hK1 := va_K.moved hvm.symm hK1
  obtain ⟨hP, hD⟩ := va_join (wr := [(qm, .inl (cM, 12, .inr (.inr (.inr (.inr (fun _ => none)))))), (qt, .inl (cT, 4, .inr (.inr (.inr (.inr (fun _ => none)))))), (qd, .inl (cD, 1, .inr (.inr (.inr (.inl (fun _ => 0)))))), (qo, .inl (cL, 1, .inr (.inl (vp_updL (fun _ => 0) ((0 : Int32).toNatClampNeg) 0))))]) (w1 := []) hP hD [4] [0, 1, 2, 3] rfl rfl (by decide) (by decide) hk1 hFc hP1 hD1
  have hK := (hK.sub (tys' := [(cM, .object "Haltingale$Machine"), (cT, .object "Haltingale$Tag"), (cL, .long), (cD, .double), (cL, .long)]) [0, 1, 2, 3, 4] rfl).app hK1
  generalize H1 = H at hP hS ⊢
  have hP : va_P (dC, dI) vwCl [(qm, .inl (cM, 12, .inr (.inr (.inr (.inr (fun _ => none)))))), (qt, .inl (cT, 4, .inr (.inr (.inr (.inr (fun _ => none)))))), (qd, .inl (cD, 1, .inr (.inr (.inr (.inl (fun _ => 0)))))), (qo, .inl (cL, 1, .inr (.inl (vp_updL (fun _ => 0) ((0 : Int32).toNatClampNeg) 0))))] H := hP
  have hD : va_D A [(qm, .inl (cM, 12, .inr (.inr (.inr (.inr (fun _ => none)))))), (qt, .inl (cT, 4, .inr (.inr (.inr (.inr (fun _ => none)))))), (qd, .inl (cD, 1, .inr (.inr (.inr (.inl (fun _ => 0)))))), (qo, .inl (cL, 1, .inr (.inl (vp_updL (fun _ => 0) ((0 : Int32).toNatClampNeg) 0))))] := hD
  have hK : va_K (dC, dI) vwCl [(cM, .object "Haltingale$Machine"), (cT, .object "Haltingale$Tag"), (cL, .long), (cD, .double), (cL, .long)] s := hK
  refine W.widen (k := 34) (n := 4344) (Nat.le_of_ble_eq_true rfl) (Nat.le_of_ble_eq_true rfl) ?_
  obtain rfl : r_7 = 0 := hw
  refine lv_iload hx hb dL_law_1544 (lv_at hl 1 rfl) ?_
  refine lv_icmp_eq (tgt := 1551) hx hb dL_law_1546 (by decide) (fun c_8 => ?_) (fun c_8 => ?_)
  rotate_left
  · (first | exact absurd c_8 (by decide) | exact absurd (by decide) c_8)
  refine lv_iload hx hb dL_law_1551 (lv_at hl 1 rfl) ?_
  refine lv_if_ne (tgt := 1568) hx hb dL_law_1553 (by decide) (fun c_9 => ?_) (fun c_9 => ?_)
  · (first | exact absurd c_9 (by decide) | exact absurd (by decide) c_9)
  refine lv_aload_n hx hb dL_law_1556 rfl (lv_at hl 4 rfl) ?_
  refine lv_iconst (v := 0) hx hb dL_law_1557 (by decide) ?_
  refine va_lald hx hb hK hP 3 2 rfl rfl (by unfold vp_in; decide) dL_law_1558 ?_
  refine lv_topl (fun y_10 ey_10 => ?_)
  obtain rfl : y_10 = 0 := ey_10.trans (by decide +kernel)
  refine lv_iload hx hb dL_law_1559 (lv_at hl 0 rfl) ?_
  refine lv_i2l (v := 0) hx hb dL_law_1561 (by decide) ?_
  refine W.lcmp hx hb dL_law_1562 ?_
  refine lv_topi (fun x_11 ex_11 => ?_)
  obtain rfl : x_11 = 0 := ex_11.trans (by decide +kernel)
  refine lv_if_eq (tgt := 1568) hx hb dL_law_1563 (by decide) (fun c_12 => ?_) (fun c_12 => ?_)
  rotate_left
  · (first | exact absurd c_12 (by decide) | exact absurd (by decide) c_12)
  refine lv_goto (tgt := 1806) hx hb dL_law_1568 (by decide) ?_
  refine lv_iinc (v := 7) (lv' := [(5, .int 7), (7, .int 0), (6, .int 0), (4, .ref qd), (3, .ref qo), (2, .ref m0), (1, .ref x0), (0, .ref b)]) hx hb dL_law_1806 hl (k := 2) rfl (by decide) (by decide) rfl (fun ls hl => ?_)
  refine lv_goto (tgt := 28) hx hb dL_law_1809 (by decide) ?_
  refine lv_iload hx hb dL_law_28 (lv_at hl 0 rfl) ?_
  refine lv_aload_n hx hb dL_law_30 rfl (lv_at hl 7 rfl) ?_
  refine va_slen hx hb hX hbl hbA hS dL_law_31 ?_
  refine lv_topi (fun x_13 ex_13 => ?_)
  obtain rfl : x_13 = 7 := ex_13.trans (by decide)
  refine lv_bipush (v := 7) hx hb dL_law_32 (by decide) ?_
  refine lv_isub hx hb dL_law_34 ?_
  refine lv_topi (fun x_14 ex_14 => ?_)
  obtain rfl : x_14 = 0 := ex_14.trans (by decide)
  refine lv_icmp_gt (tgt := 1812) hx hb dL_law_35 (by decide) (fun c_15 => ?_) (fun c_15 => ?_)
  rotate_left
  · (first | exact absurd c_15 (by decide) | exact absurd (by decide) c_15)
  refine lv_iconst (v := 1) hx hb dL_law_1812 (by decide) ?_
  refine va_forget (fun q hq => hA2 _ (hS.2.2 q hq)) ?_
  refine W.widen (k := room_1.cells) (n := room_1.slots) (Nat.le_of_ble_eq_true rfl) (Nat.le_of_ble_eq_true rfl) ?_
  exact lw_ret0 hx hb hr hlocks dL_law_1813

set_option maxHeartbeats 4000000 in
set_option maxRecDepth 100000 in
/-- the law, case 17 -/
theorem law_17_9 {p : Program} {l : Launch} (hnt : l.stackTraces = false) {e : Env} {s : State} {m : MethodId} {below : List Frame} {meth : Method} {c : Code} {dC : Nat → ClassId} {dI : Nat → Nat → Nat} {a0 b : Nat} {xs : Nat → Int32} (C0 : lw_At p s m meth c b 7 xs) {A : Nat → Prop} (hA : ∀ q : Nat, s.heap.size ≤ q → A q) (hA2 : ∀ q : Nat, A q → s.heap.size ≤ q) (hZ : zB a0 A s s.heap) {x0 : Nat} {qm : Nat} {qt : Nat} {qw : Nat} {qc : Nat} {qb : Nat} {qg : Nat} {m0 : Nat} {l1 : Nat} {l2 : Nat} {qo : Nat} {qd : Nat} {cM : ClassId} {cT : ClassId} {cL : ClassId} {cD : ClassId} {H : Heap} {locs : List Loc} (hK : va_K (dC, dI) vwCl [(cM, .object "Haltingale$Machine"), (cT, .object "Haltingale$Tag"), (cL, .long), (cD, .double)] s) (hP : va_P (dC, dI) vwCl [(x0, .inr (9, [.ref qm, .ref qt, .ref qw, .ref qc, .ref qb, .ref qg, .int 0, .int 0, .int 0, .int 0, .int 0])), (qm, .inl (cM, 12, .inr (.inr (.inr (.inr (fun _ => none)))))), (qt, .inl (cT, 4, .inr (.inr (.inr (.inr (fun _ => none)))))), (m0, .inr (12, [.int 0, .ref l1, .ref l2, .int 0, .int 0, .int 0, .long 0])), (l1, .inr (1, [.int 0, .ref a0, .int 0])), (l2, .inr (1, [.int 0, .ref a0, .int 0])), (qo, .inl (cL, 1, .inr (.inl (fun _ => 0)))), (qd, .inl (cD, 1, .inr (.inr (.inr (.inl (fun _ => 0))))))] H) (hD : va_D A [(x0, .inr (9, [.ref qm, .ref qt, .ref qw, .ref qc, .ref qb, .ref qg, .int 0, .int 0, .int 0, .int 0, .int 0])), (qm, .inl (cM, 12, .inr (.inr (.inr (.inr (fun _ => none)))))), (qt, .inl (cT, 4, .inr (.inr (.inr (.inr (fun _ => none)))))), (m0, .inr (12, [.int 0, .ref l1, .ref l2, .int 0, .int 0, .int 0, .long 0])), (l1, .inr (1, [.int 0, .ref a0, .int 0])), (l2, .inr (1, [.int 0, .ref a0, .int 0])), (qo, .inl (cL, 1, .inr (.inl (fun _ => 0)))), (qd, .inl (cD, 1, .inr (.inr (.inr (.inl (fun _ => 0))))))]) (hS : va_S A s.heap H locs) {ls : Array Slot} (hl : lv_has ls 10 [(5, .int 0), (4, .ref qd), (3, .ref qo), (2, .ref m0), (1, .ref x0), (0, .ref b)]) (hp : xs ((1 : Int32).toNatClampNeg) = 9) : W p l e room_1 s m #[Value.ref b] below meth c H locs 31 4324 (lw_Z below #[Value.ref b] s) (F0 m 1515 ls []) := by
  obtain ⟨hx, hb, hr, hml, hown, hts0, hX, hbl, hlocks, hgv⟩ := C0
  have hts : ∀ w ∈ zs_law, w.before #[Value.ref b] s = true := fun w h => hts0 w (zs_law_in w h)
  have hbA : ¬ A b := fun h => absurd (hA2 b h) (Nat.not_le.mpr hbl)
  refine lv_aload_n hx hb dL_law_1515 rfl (lv_at hl 4 rfl) ?_
  refine lv_aload_n hx hb dL_law_1516 rfl (lv_at hl 5 rfl) ?_
  refine lv_iload hx hb dL_law_1517 (lv_at hl 0 rfl) ?_
  refine lv_iconst (v := 1) hx hb dL_law_1519 (by decide) ?_
  refine lv_iadd hx hb dL_law_1520 ?_
  refine lv_topi (fun x_1 ex_1 => ?_)
  obtain rfl : x_1 = 1 := ex_1.trans (by decide)
  refine va_sld hx hb hX hbl hbA hS (by unfold vp_in; decide) dL_law_1521 ?_
  refine lv_topi (fun x_2 ex_2 => ?_)
  obtain rfl : x_2 = 9 := ex_2.trans (hp)
  refine lv_aload_n hx hb dL_law_1522 rfl (lv_at hl 2 rfl) ?_
  have hPc := hP.sub (ws' := [(x0, .inr (9, [.ref qm, .ref qt, .ref qw, .ref qc, .ref qb, .ref qg, .int 0, .int 0, .int 0, .int 0, .int 0])), (qo, .inl (cL, 1, .inr (.inl (fun _ => 0))))]) [0, 6] rfl
  have hDc := hD.sub (ws' := [(x0, .inr (9, [.ref qm, .ref qt, .ref qw, .ref qc, .ref qb, .ref qg, .int 0, .int 0, .int 0, .int 0, .int 0])), (qo, .inl (cL, 1, .inr (.inl (fun _ => 0))))]) [0, 6] (by decide) rfl
  have hKc := hK.sub (tys' := [(cL, .long)]) [2] rfl
  have hFc := va_free (wc := [(x0, .inr (9, [.ref qm, .ref qt, .ref qw, .ref qc, .ref qb, .ref qg, .int 0, .int 0, .int 0, .int 0, .int 0])), (qo, .inl (cL, 1, .inr (.inl (fun _ => 0))))]) hD hS hA [0, 6] rfl
  have hZc := ((hZ.kept hS.2.1).narrow hFc)
  refine va_calli (vx_runSW (As := [.ref x0, .int 9, .ref qo]) (rest := []) ⟨hx, hb, hml, hown, hts⟩ (c_L_many_9 l hnt dC dI a0 x0 qm qt qw qc qb qg qo cL H.size ) (vx_cwSW 3 hts (goodIn_of _ (by decide +kernel)) rfl rfl rfl (by decide +kernel) ⟨Nat.le_of_ble_eq_true rfl, Nat.le_of_ble_eq_true rfl⟩) ⟨fun a U g mk q => by obtain ⟨q0, q1, qP, qK, qD, qZ⟩ := q; exact ⟨q0, q1, qP, va_K.moved (u := U) (U := U.calling g mk a) (Vm.Alike.refl U.vm) qK, qD, qZ.call⟩, fun U hU hW => ⟨rfl, by rw [hU], by rw [hU]; exact hPc, va_K.moved hW.alike hKc, hDc.weaken (fun _ _ _ _ => trivial), by rw [hU]; exact hZc.warm hW⟩⟩ rfl rfl hl.1 rfl (lv_room (Nat.le_of_ble_eq_true rfl)) dL_law_1523 ⟨Nat.le_of_ble_eq_true rfl, Nat.le_of_ble_eq_true rfl⟩) hS (fun q _ h => hFc q h) hFc (fun r_3 u t H1 locs ht hvm hw hB hz1 hk1 hS => ?_)
  obtain ⟨hP1, hK1, hD1⟩ := hB
  rw [ht] at hP1
  have hK1 := va_K.moved hvm.symm hK1
  obtain ⟨hP, hD⟩ := va_join (wr := [(qm, .inl (cM, 12, .inr (.inr (.inr (.inr (fun _ => none)))))), (qt, .inl (cT, 4, .inr (.inr (.inr (.inr (fun _ => none)))))), (m0, .inr (12, [.int 0, .ref l1, .ref l2, .int 0, .int 0, .int 0, .long 0])), (l1, .inr (1, [.int 0, .ref a0, .int 0])), (l2, .inr (1, [.int 0, .ref a0, .int 0])), (qd, .inl (cD, 1, .inr (.inr (.inr (.inl (fun _ => 0))))))]) (w1 := [(qo, .inl (cL, 1, .inr (.inl (vp_updL (fun _ => 0) ((0 : Int32).toNatClampNeg) 0))))]) hP hD [0, 6] [1, 2, 3, 4, 5, 7] rfl rfl (by decide) (by decide) hk1 hFc hP1 hD1
  have hK := (hK.sub (tys' := [(cM, .object "Haltingale$Machine"), (cT, .object "Haltingale$Tag"), (cL, .long), (cD, .double)]) [0, 1, 2, 3] rfl).app hK1
  generalize H1 = H at hP hS ⊢
  have hP : va_P (dC, dI) vwCl [(qm, .inl (cM, 12, .inr (.inr (.inr (.inr (fun _ => none)))))), (qt, .inl (cT, 4, .inr (.inr (.inr (.inr (fun _ => none)))))), (m0, .inr (12, [.int 0, .ref l1, .ref l2, .int 0, .int 0, .int 0, .long 0])), (l1, .inr (1, [.int 0, .ref a0, .int 0])), (l2, .inr (1, [.int 0, .ref a0, .int 0])), (qd, .inl (cD, 1, .inr (.inr (.inr (.inl (fun _ => 0)))))), (qo, .inl (cL, 1, .inr (.inl (vp_updL (fun _ => 0) ((0 : Int32).toNatClampNeg) 0))))] H := hP
  have hD : va_D A [(qm, .inl (cM, 12, .inr (.inr (.inr (.inr (fun _ => none)))))), (qt, .inl (cT, 4, .inr (.inr (.inr (.inr (fun _ => none)))))), (m0, .inr (12, [.int 0, .ref l1, .ref l2, .int 0, .int 0, .int 0, .long 0])), (l1, .inr (1, [.int 0, .ref a0, .int 0])), (l2, .inr (1, [.int 0, .ref a0, .int 0])), (qd, .inl (cD, 1, .inr (.inr (.inr (.inl (fun _ => 0)))))), (qo, .inl (cL, 1, .inr (.inl (vp_updL (fun _ => 0) ((0 : Int32).toNatClampNeg) 0))))] := hD
  have hK : va_K (dC, dI) vwCl [(cM, .object "Haltingale$Machine"), (cT, .object "Haltingale$Tag"), (cL, .long), (cD, .double), (cL, .long)] s := hK
  refine W.widen (k := 31) (n := 4324) (Nat.le_of_ble_eq_true rfl) (Nat.le_of_ble_eq_true rfl) ?_
  obtain rfl : r_3 = 0 := hw
  refine lv_istore (lv' := [(6, .int 0), (5, .int 0), (4, .ref qd), (3, .ref qo), (2, .ref m0), (1, .ref x0), (0, .ref b)]) hx hb dL_law_1526 hl (by decide) rfl (fun ls hl => ?_)
  refine lv_aload_n hx hb dL_law_1528 rfl (lv_at hl 4 rfl) ?_
  refine lv_aload_n hx hb dL_law_1529 rfl (lv_at hl 6 rfl) ?_
  refine lv_iload hx hb dL_law_1530 (lv_at hl 1 rfl) ?_
  refine lv_iconst (v := 1) hx hb dL_law_1532 (by decide) ?_
  refine lv_iadd hx hb dL_law_1533 ?_
  refine lv_topi (fun x_4 ex_4 => ?_)
  obtain rfl : x_4 = 1 := ex_4.trans (by decide)
  refine va_sld hx hb hX hbl hbA hS (by unfold vp_in; decide) dL_law_1534 ?_
  refine lv_topi (fun x_5 ex_5 => ?_)
  obtain rfl : x_5 = 9 := ex_5.trans (hp)
  have hPc := hP.sub (ws' := [(m0, .inr (12, [.int 0, .ref l1, .ref l2, .int 0, .int 0, .int 0, .long 0])), (l1, .inr (1, [.int 0, .ref a0, .int 0])), (l2, .inr (1, [.int 0, .ref a0, .int 0]))]) [2, 3, 4] rfl
  have hDc := hD.sub (ws' := [(m0, .inr (12, [.int 0, .ref l1, .ref l2, .int 0, .int 0, .int 0, .long 0])), (l1, .inr (1, [.int 0, .ref a0, .int 0])), (l2, .inr (1, [.int 0, .ref a0, .int 0]))]) [2, 3, 4] (by decide) rfl
  have hKc := hK.sub (tys' := []) [] rfl
  have hFc := va_free (wc := [(m0, .inr (12, [.int 0, .ref l1, .ref l2, .int 0, .int 0, .int 0, .long 0])), (l1, .inr (1, [.int 0, .ref a0, .int 0])), (l2, .inr (1, [.int 0, .ref a0, .int 0]))]) hD hS hA [2, 3, 4] rfl
  have hZc := ((hZ.kept hS.2.1).narrow hFc)
  refine va_calli (va_runV (As := [.int 9]) (rest := []) ⟨hx, hb, hml, hown, hts⟩ (c_X10_many_9 l hnt dC dI a0 m0 l1 l2 H.size ) (cwV 1 hts (goodIn_of _ (by decide +kernel)) rfl rfl rfl (by decide +kernel) ⟨Nat.le_of_ble_eq_true rfl, Nat.le_of_ble_eq_true rfl⟩) ⟨fun a U g mk q => by obtain ⟨q0, q1, qP, qK, qD, qZ⟩ := q; exact ⟨q0, q1, qP, va_K.moved (u := U) (U := U.calling g mk a) (Vm.Alike.refl U.vm) qK, qD, qZ.call⟩, va_recv hKc hPc (ci := 12) (q0 := 0) rfl rfl, fun U hU hW => ⟨rfl, by rw [hU], by rw [hU]; exact hPc, va_K.moved hW.alike hKc, hDc.weaken (fun _ _ _ _ => trivial), by rw [hU]; exact hZc.warm hW⟩⟩ rfl rfl hl.1 rfl (lv_room (Nat.le_of_ble_eq_true rfl)) dL_law_1535 ⟨Nat.le_of_ble_eq_true rfl, Nat.le_of_ble_eq_true rfl⟩) hS (fun q _ h => hFc q h) hFc (fun r_6 u t H1 locs ht hvm hw hB hz1 hk1 hS => ?_)
  obtain ⟨hP1, hK1, hD1⟩ := hB
  rw [ht] at hP1
  have hK1 := va_K.moved hvm.symm hK1
  obtain ⟨hP, hD⟩ := va_join (wr := [(qm, .inl (cM, 12, .inr (.inr (.inr (.inr (fun _ => none)))))), (qt, .inl (cT, 4, .inr (.inr (.inr (.inr (fun _ => none)))))), (qd, .inl (cD, 1, .inr (.inr (.inr (.inl (fun _ => 0)))))), (qo, .inl (cL, 1, .inr (.inl (vp_updL (fun _ => 0) ((0 : Int32).toNatClampNeg) 0))))]) (w1 := [(m0, .inr (12, [.int 0, .ref l1, .ref l2, .int 0, .int 0, .int 0, .long 0]))]) hP hD [2, 3, 4] [0, 1, 5, 6] rfl rfl (by decide) (by decide) hk1 hFc hP1 hD1
  have hK := (hK.sub (tys' := [(cM, .object "Haltingale$Machine"), (cT, .object "Haltingale$Tag"), (cL, .long), (cD, .double), (cL, .long)]) [0, 1, 2, 3, 4] rfl).app hK1
  generalize H1 = H at hP hS ⊢
  have hP : va_P (dC, dI) vwCl [(qm, .inl (cM, 12, .inr (.inr (.inr (.inr (fun _ => none)))))), (qt, .inl (cT, 4, .inr (.inr (.inr (.inr (fun _ => none)))))), (qd, .inl (cD, 1, .inr (.inr (.inr (.inl (fun _ => 0)))))), (qo, .inl (cL, 1, .inr (.inl (vp_updL (fun _ => 0) ((0 : Int32).toNatClampNeg) 0)))), (m0, .inr (12, [.int 0, .ref l1, .ref l2, .int 0, .int 0, .int 0, .long 0]))] H := hP
  have hD : va_D A [(qm, .inl (cM, 12, .inr (.inr (.inr (.inr (fun _ => none)))))), (qt, .inl (cT, 4, .inr (.inr (.inr (.inr (fun _ => none)))))), (qd, .inl (cD, 1, .inr (.inr (.inr (.inl (fun _ => 0)))))), (qo, .inl (cL, 1, .inr (.inl (vp_updL (fun _ => 0) ((0 : Int32).toNatClampNeg) 0)))), (m0, .inr (12, [.int 0, .ref l1, .ref l2, .int 0, .int 0, .int 0, .long 0]))] := hD
  have hK : va_K (dC, dI) vwCl [(cM, .object "Haltingale$Machine"), (cT, .object "Haltingale$Tag"), (cL, .long), (cD, .double), (cL, .long)] s := hK
  refine W.widen (k := 34) (n := 4344) (Nat.le_of_ble_eq_true rfl) (Nat.le_of_ble_eq_true rfl) ?_
  obtain rfl : r_6 = 0 := hw
  refine lv_istore (lv' := [(7, .int 0), (6, .int 0), (5, .int 0), (4, .ref qd), (3, .ref qo), (2, .ref m0), (1, .ref x0), (0, .ref b)]) hx hb dL_law_1538 hl (by decide) rfl (fun ls hl => ?_)
  refine lv_aload_n hx hb dL_law_1540 rfl (lv_at hl 5 rfl) ?_
  have hPc := hP.sub (ws' := [(m0, .inr (12, [.int 0, .ref l1, .ref l2, .int 0, .int 0, .int 0, .long 0]))]) [4] rfl
  have hDc := hD.sub (ws' := [(m0, .inr (12, [.int 0, .ref l1, .ref l2, .int 0, .int 0, .int 0, .long 0]))]) [4] (by decide) rfl
  have hKc := hK.sub (tys' := []) [] rfl
  have hFc := va_free (wc := [(m0, .inr (12, [.int 0, .ref l1, .ref l2, .int 0, .int 0, .int 0, .long 0]))]) hD hS hA [4] rfl
  have hZc := ((hZ.kept hS.2.1).narrow hFc)
  refine va_calli (va_runV (As := []) (rest := []) ⟨hx, hb, hml, hown, hts⟩ (c_X10_thrown l hnt dC dI a0 m0 l1 l2 0 H.size ) (cwV 0 hts (goodIn_of _ (by decide +kernel)) rfl rfl rfl (by decide +kernel) ⟨Nat.le_of_ble_eq_true rfl, Nat.le_of_ble_eq_true rfl⟩) ⟨fun a U g mk q => by obtain ⟨q0, q1, qP, qK, qD, qZ⟩ := q; exact ⟨q0, q1, qP, va_K.moved (u := U) (U := U.calling g mk a) (Vm.Alike.refl U.vm) qK, qD, qZ.call⟩, va_recv hKc hPc (ci := 12) (q0 := 0) rfl rfl, fun U hU hW => ⟨rfl, by rw [hU], by rw [hU]; exact hPc, va_K.moved hW.alike hKc, hDc.weaken (fun _ _ _ _ => trivial), by rw [hU]; exact hZc.warm hW⟩⟩ rfl rfl hl.1 rfl (lv_room (Nat.le_of_ble_eq_true rfl)) dL_law_1541 ⟨Nat.le_of_ble_eq_true rfl, Nat.le_of_ble_eq_true rfl⟩) hS (fun q _ h => hFc q h) hFc (fun r_7 u t H1 locs ht hvm hw hB hz1 hk1 hS => ?_)
  obtain ⟨hP1, hK1, hD1⟩ := hB
  rw [ht] at hP1
  have hK1 := va_K.moved hvm.symm hK1
  obtain ⟨hP, hD⟩ := va_join (wr := [(qm, .inl (cM, 12, .inr (.inr (.inr (.inr (fun _ => none)))))), (qt, .inl (cT, 4, .inr (.inr (.inr (.inr (fun _ => none)))))), (qd, .inl (cD, 1, .inr (.inr (.inr (.inl (fun _ => 0)))))), (qo, .inl (cL, 1, .inr (.inl (vp_updL (fun _ => 0) ((0 : Int32).toNatClampNeg) 0))))]) (w1 := []) hP hD [4] [0, 1, 2, 3] rfl rfl (by decide) (by decide) hk1 hFc hP1 hD1
  have hK := (hK.sub (tys' := [(cM, .object "Haltingale$Machine"), (cT, .object "Haltingale$Tag"), (cL, .long), (cD, .double), (cL, .long)]) [0, 1, 2, 3, 4] rfl).app hK1
  generalize H1 = H at hP hS ⊢
  have hP : va_P (dC, dI) vwCl [(qm, .inl (cM, 12, .inr (.inr (.inr (.inr (fun _ => none)))))), (qt, .inl (cT, 4, .inr (.inr (.inr (.inr (fun _ => none)))))), (qd, .inl (cD, 1, .inr (.inr (.inr (.inl (fun _ => 0)))))), (qo, .inl (cL, 1, .inr (.inl (vp_updL (fun _ => 0) ((0 : Int32).toNatClampNeg) 0))))] H := hP
  have hD : va_D A [(qm, .inl (cM, 12, .inr (.inr (.inr (.inr (fun _ => none)))))), (qt, .inl (cT, 4, .inr (.inr (.inr (.inr (fun _ => none)))))), (qd, .inl (cD, 1, .inr (.inr (.inr (.inl (fun _ => 0)))))), (qo, .inl (cL, 1, .inr (.inl (vp_updL (fun _ => 0) ((0 : Int32).toNatClampNeg) 0))))] := hD
  have hK : va_K (dC, dI) vwCl [(cM, .object "Haltingale$Machine"), (cT, .object "Haltingale$Tag"), (cL, .long), (cD, .double), (cL, .long)] s := hK
  refine W.widen (k := 34) (n := 4344) (Nat.le_of_ble_eq_true rfl) (Nat.le_of_ble_eq_true rfl) ?_
  obtain rfl : r_7 = 0 := hw
  refine lv_iload hx hb dL_law_1544 (lv_at hl 1 rfl) ?_
  refine lv_icmp_eq (tgt := 1551) hx hb dL_law_1546 (by decide) (fun c_8 => ?_) (fun c_8 => ?_)
  rotate_left
  · (first | exact absurd c_8 (by decide) | exact absurd (by decide) c_8)
  refine lv_iload hx hb dL_law_1551 (lv_at hl 1 rfl) ?_
  refine lv_if_ne (tgt := 1568) hx hb dL_law_1553 (by decide) (fun c_9 => ?_) (fun c_9 => ?_)
  · (first | exact absurd c_9 (by decide) | exact absurd (by decide) c_9)
  refine lv_aload_n hx hb dL_law_1556 rfl (lv_at hl 4 rfl) ?_
  refine lv_iconst (v := 0) hx hb dL_law_1557 (by decide) ?_
  refine va_lald hx hb hK hP 3 2 rfl rfl (by unfold vp_in; decide) dL_law_1558 ?_
  refine lv_topl (fun y_10 ey_10 => ?_)
  obtain rfl : y_10 = 0 := ey_10.trans (by decide +kernel)
  refine lv_iload hx hb dL_law_1559 (lv_at hl 0 rfl) ?_
  refine lv_i2l (v := 0) hx hb dL_law_1561 (by decide) ?_
  refine W.lcmp hx hb dL_law_1562 ?_
  refine lv_topi (fun x_11 ex_11 => ?_)
  obtain rfl : x_11 = 0 := ex_11.trans (by decide +kernel)
  refine lv_if_eq (tgt := 1568) hx hb dL_law_1563 (by decide) (fun c_12 => ?_) (fun c_12 => ?_)
  rotate_left
  · (first | exact absurd c_12 (by decide) | exact absurd (by decide) c_12)
  refine lv_goto (tgt := 1806) hx hb dL_law_1568 (by decide) ?_
  refine lv_iinc (v := 7) (lv' := [(5, .int 7), (7, .int 0), (6, .int 0), (4, .ref qd), (3, .ref qo), (2, .ref m0), (1, .ref x0), (0, .ref b)]) hx hb dL_law_1806 hl (k := 2) rfl (by decide) (by decide) rfl (fun ls hl => ?_)
  refine lv_goto (tgt := 28) hx hb dL_law_1809 (by decide) ?_
  refine lv_iload hx hb dL_law_28 (lv_at hl 0 rfl) ?_
  refine lv_aload_n hx hb dL_law_30 rfl (lv_at hl 7 rfl) ?_
  refine va_slen hx hb hX hbl hbA hS dL_law_31 ?_
  refine lv_topi (fun x_13 ex_13 => ?_)
  obtain rfl : x_13 = 7 := ex_13.trans (by decide)
  refine lv_bipush (v := 7) hx hb dL_law_32 (by decide) ?_
  refine lv_isub hx hb dL_law_34 ?_
  refine lv_topi (fun x_14 ex_14 => ?_)
  obtain rfl : x_14 = 0 := ex_14.trans (by decide)
  refine lv_icmp_gt (tgt := 1812) hx hb dL_law_35 (by decide) (fun c_15 => ?_) (fun c_15 => ?_)
  rotate_left
  · (first | exact absurd c_15 (by decide) | exact absurd (by decide) c_15)
  refine lv_iconst (v := 1) hx hb dL_law_1812 (by decide) ?_
  refine va_forget (fun q hq => hA2 _ (hS.2.2 q hq)) ?_
  refine W.widen (k := room_1.cells) (n := room_1.slots) (Nat.le_of_ble_eq_true rfl) (Nat.le_of_ble_eq_true rfl) ?_
  exact lw_ret0 hx hb hr hlocks dL_law_1813

set_option maxHeartbeats 4000000 in
set_option maxRecDepth 100000 in
/-- the law, case 17 -/
theorem law_17_10 {p : Program} {l : Launch} (hnt : l.stackTraces = false) {e : Env} {s : State} {m : MethodId} {below : List Frame} {meth : Method} {c : Code} {dC : Nat → ClassId} {dI : Nat → Nat → Nat} {a0 b : Nat} {xs : Nat → Int32} (C0 : lw_At p s m meth c b 7 xs) {A : Nat → Prop} (hA : ∀ q : Nat, s.heap.size ≤ q → A q) (hA2 : ∀ q : Nat, A q → s.heap.size ≤ q) (hZ : zB a0 A s s.heap) {x0 : Nat} {qm : Nat} {qt : Nat} {qw : Nat} {qc : Nat} {qb : Nat} {qg : Nat} {m0 : Nat} {l1 : Nat} {l2 : Nat} {qo : Nat} {qd : Nat} {cM : ClassId} {cT : ClassId} {cL : ClassId} {cD : ClassId} {H : Heap} {locs : List Loc} (hK : va_K (dC, dI) vwCl [(cM, .object "Haltingale$Machine"), (cT, .object "Haltingale$Tag"), (cL, .long), (cD, .double)] s) (hP : va_P (dC, dI) vwCl [(x0, .inr (9, [.ref qm, .ref qt, .ref qw, .ref qc, .ref qb, .ref qg, .int 0, .int 0, .int 0, .int 0, .int 0])), (qm, .inl (cM, 12, .inr (.inr (.inr (.inr (fun _ => none)))))), (qt, .inl (cT, 4, .inr (.inr (.inr (.inr (fun _ => none)))))), (m0, .inr (12, [.int 0, .ref l1, .ref l2, .int 0, .int 0, .int 0, .long 0])), (l1, .inr (1, [.int 0, .ref a0, .int 0])), (l2, .inr (1, [.int 0, .ref a0, .int 0])), (qo, .inl (cL, 1, .inr (.inl (fun _ => 0)))), (qd, .inl (cD, 1, .inr (.inr (.inr (.inl (fun _ => 0))))))] H) (hD : va_D A [(x0, .inr (9, [.ref qm, .ref qt, .ref qw, .ref qc, .ref qb, .ref qg, .int 0, .int 0, .int 0, .int 0, .int 0])), (qm, .inl (cM, 12, .inr (.inr (.inr (.inr (fun _ => none)))))), (qt, .inl (cT, 4, .inr (.inr (.inr (.inr (fun _ => none)))))), (m0, .inr (12, [.int 0, .ref l1, .ref l2, .int 0, .int 0, .int 0, .long 0])), (l1, .inr (1, [.int 0, .ref a0, .int 0])), (l2, .inr (1, [.int 0, .ref a0, .int 0])), (qo, .inl (cL, 1, .inr (.inl (fun _ => 0)))), (qd, .inl (cD, 1, .inr (.inr (.inr (.inl (fun _ => 0))))))]) (hS : va_S A s.heap H locs) {ls : Array Slot} (hl : lv_has ls 10 [(5, .int 0), (4, .ref qd), (3, .ref qo), (2, .ref m0), (1, .ref x0), (0, .ref b)]) (hp : xs ((1 : Int32).toNatClampNeg) = 10) : W p l e room_1 s m #[Value.ref b] below meth c H locs 31 4324 (lw_Z below #[Value.ref b] s) (F0 m 1515 ls []) := by
  obtain ⟨hx, hb, hr, hml, hown, hts0, hX, hbl, hlocks, hgv⟩ := C0
  have hts : ∀ w ∈ zs_law, w.before #[Value.ref b] s = true := fun w h => hts0 w (zs_law_in w h)
  have hbA : ¬ A b := fun h => absurd (hA2 b h) (Nat.not_le.mpr hbl)
  refine lv_aload_n hx hb dL_law_1515 rfl (lv_at hl 4 rfl) ?_
  refine lv_aload_n hx hb dL_law_1516 rfl (lv_at hl 5 rfl) ?_
  refine lv_iload hx hb dL_law_1517 (lv_at hl 0 rfl) ?_
  refine lv_iconst (v := 1) hx hb dL_law_1519 (by decide) ?_
  refine lv_iadd hx hb dL_law_1520 ?_
  refine lv_topi (fun x_1 ex_1 => ?_)
  obtain rfl : x_1 = 1 := ex_1.trans (by decide)
  refine va_sld hx hb hX hbl hbA hS (by unfold vp_in; decide) dL_law_1521 ?_
  refine lv_topi (fun x_2 ex_2 => ?_)
  obtain rfl : x_2 = 10 := ex_2.trans (hp)
  refine lv_aload_n hx hb dL_law_1522 rfl (lv_at hl 2 rfl) ?_
  have hPc := hP.sub (ws' := [(x0, .inr (9, [.ref qm, .ref qt, .ref qw, .ref qc, .ref qb, .ref qg, .int 0, .int 0, .int 0, .int 0, .int 0])), (qo, .inl (cL, 1, .inr (.inl (fun _ => 0))))]) [0, 6] rfl
  have hDc := hD.sub (ws' := [(x0, .inr (9, [.ref qm, .ref qt, .ref qw, .ref qc, .ref qb, .ref qg, .int 0, .int 0, .int 0, .int 0, .int 0])), (qo, .inl (cL, 1, .inr (.inl (fun _ => 0))))]) [0, 6] (by decide) rfl
  have hKc := hK.sub (tys' := [(cL, .long)]) [2] rfl
  have hFc := va_free (wc := [(x0, .inr (9, [.ref qm, .ref qt, .ref qw, .ref qc, .ref qb, .ref qg, .int 0, .int 0, .int 0, .int 0, .int 0])), (qo, .inl (cL, 1, .inr (.inl (fun _ => 0))))]) hD hS hA [0, 6] rfl
  have hZc := ((hZ.kept hS.2.1).narrow hFc)
  refine va_calli (vx_runSW (As := [.ref x0, .int 10, .ref qo]) (rest := []) ⟨hx, hb, hml, hown, hts⟩ (c_L_many_10 l hnt dC dI a0 x0 qm qt qw qc qb qg qo cL H.size ) (vx_cwSW 3 hts (goodIn_of _ (by decide +kernel)) rfl rfl rfl (by decide +kernel) ⟨Nat.le_of_ble_eq_true rfl, Nat.le_of_ble_eq_true rfl⟩) ⟨fun a U g mk q => by obtain ⟨q0, q1, qP, qK, qD, qZ⟩ := q; exact ⟨q0, q1, qP, va_K.moved (u := U) (U := U.calling g mk a) (Vm.Alike.refl U.vm) qK, qD, qZ.call⟩, fun U hU hW => ⟨rfl, by rw [hU], by rw [hU]; exact hPc, va_K.moved hW.alike hKc, hDc.weaken (fun _ _ _ _ => trivial), by rw [hU]; exact hZc.warm hW⟩⟩ rfl rfl hl.1 rfl (lv_room (Nat.le_of_ble_eq_true rfl)) dL_law_1523 ⟨Nat.le_of_ble_eq_true rfl, Nat.le_of_ble_eq_true rfl⟩) hS (fun q _ h => hFc q h) hFc (fun r_3 u t H1 locs ht hvm hw hB hz1 hk1 hS => ?_)
  obtain ⟨hP1, hK1, hD1⟩ := hB
  rw [ht] at hP1
  have hK1 := va_K.moved hvm.symm hK1
  obtain ⟨hP, hD⟩ := va_join (wr := [(qm, .inl (cM, 12, .inr (.inr (.inr (.inr (fun _ => none)))))), (qt, .inl (cT, 4, .inr (.inr (.inr (.inr (fun _ => none)))))), (m0, .inr (12, [.int 0, .ref l1, .ref l2, .int 0, .int 0, .int 0, .long 0])), (l1, .inr (1, [.int 0, .ref a0, .int 0])), (l2, .inr (1, [.int 0, .ref a0, .int 0])), (qd, .inl (cD, 1, .inr (.inr (.inr (.inl (fun _ => 0))))))]) (w1 := [(qo, .inl (cL, 1, .inr (.inl (vp_updL (fun _ => 0) ((0 : Int32).toNatClampNeg) 0))))]) hP hD [0, 6] [1, 2, 3, 4, 5, 7] rfl rfl (by decide) (by decide) hk1 hFc hP1 hD1
  have hK := (hK.sub (tys' := [(cM, .object "Haltingale$Machine"), (cT, .object "Haltingale$Tag"), (cL, .long), (cD, .double)]) [0, 1, 2, 3] rfl).app hK1
  generalize H1 = H at hP hS ⊢
  have hP : va_P (dC, dI) vwCl [(qm, .inl (cM, 12, .inr (.inr (.inr (.inr (fun _ => none)))))), (qt, .inl (cT, 4, .inr (.inr (.inr (.inr (fun _ => none)))))), (m0, .inr (12, [.int 0, .ref l1, .ref l2, .int 0, .int 0, .int 0, .long 0])), (l1, .inr (1, [.int 0, .ref a0, .int 0])), (l2, .inr (1, [.int 0, .ref a0, .int 0])), (qd, .inl (cD, 1, .inr (.inr (.inr (.inl (fun _ => 0)))))), (qo, .inl (cL, 1, .inr (.inl (vp_updL (fun _ => 0) ((0 : Int32).toNatClampNeg) 0))))] H := hP
  have hD : va_D A [(qm, .inl (cM, 12, .inr (.inr (.inr (.inr (fun _ => none)))))), (qt, .inl (cT, 4, .inr (.inr (.inr (.inr (fun _ => none)))))), (m0, .inr (12, [.int 0, .ref l1, .ref l2, .int 0, .int 0, .int 0, .long 0])), (l1, .inr (1, [.int 0, .ref a0, .int 0])), (l2, .inr (1, [.int 0, .ref a0, .int 0])), (qd, .inl (cD, 1, .inr (.inr (.inr (.inl (fun _ => 0)))))), (qo, .inl (cL, 1, .inr (.inl (vp_updL (fun _ => 0) ((0 : Int32).toNatClampNeg) 0))))] := hD
  have hK : va_K (dC, dI) vwCl [(cM, .object "Haltingale$Machine"), (cT, .object "Haltingale$Tag"), (cL, .long), (cD, .double), (cL, .long)] s := hK
  refine W.widen (k := 31) (n := 4324) (Nat.le_of_ble_eq_true rfl) (Nat.le_of_ble_eq_true rfl) ?_
  obtain rfl : r_3 = 0 := hw
  refine lv_istore (lv' := [(6, .int 0), (5, .int 0), (4, .ref qd), (3, .ref qo), (2, .ref m0), (1, .ref x0), (0, .ref b)]) hx hb dL_law_1526 hl (by decide) rfl (fun ls hl => ?_)
  refine lv_aload_n hx hb dL_law_1528 rfl (lv_at hl 4 rfl) ?_
  refine lv_aload_n hx hb dL_law_1529 rfl (lv_at hl 6 rfl) ?_
  refine lv_iload hx hb dL_law_1530 (lv_at hl 1 rfl) ?_
  refine lv_iconst (v := 1) hx hb dL_law_1532 (by decide) ?_
  refine lv_iadd hx hb dL_law_1533 ?_
  refine lv_topi (fun x_4 ex_4 => ?_)
  obtain rfl : x_4 = 1 := ex_4.trans (by decide)
  refine va_sld hx hb hX hbl hbA hS (by unfold vp_in; decide) dL_law_1534 ?_
  refine lv_topi (fun x_5 ex_5 => ?_)
  obtain rfl : x_5 = 10 := ex_5.trans (hp)
  have hPc := hP.sub (ws' := [(m0, .inr (12, [.int 0, .ref l1, .ref l2, .int 0, .int 0, .int 0, .long 0])), (l1, .inr (1, [.int 0, .ref a0, .int 0])), (l2, .inr (1, [.int 0, .ref a0, .int 0]))]) [2, 3, 4] rfl
  have hDc := hD.sub (ws' := [(m0, .inr (12, [.int 0, .ref l1, .ref l2, .int 0, .int 0, .int 0, .long 0])), (l1, .inr (1, [.int 0, .ref a0, .int 0])), (l2, .inr (1, [.int 0, .ref a0, .int 0]))]) [2, 3, 4] (by decide) rfl
  have hKc := hK.sub (tys' := []) [] rfl
  have hFc := va_free (wc := [(m0, .inr (12, [.int 0, .ref l1, .ref l2, .int 0, .int 0, .int 0, .long 0])), (l1, .inr (1, [.int 0, .ref a0, .int 0])), (l2, .inr (1, [.int 0, .ref a0, .int 0]))]) hD hS hA [2, 3, 4] rfl
  have hZc := ((hZ.kept hS.2.1).narrow hFc)
  refine va_calli (va_runV (As := [.int 10]) (rest := []) ⟨hx, hb, hml, hown, hts⟩ (c_X10_many_10 l hnt dC dI a0 m0 l1 l2 H.size ) (cwV 1 hts (goodIn_of _ (by decide +kernel)) rfl rfl rfl (by decide +kernel) ⟨Nat.le_of_ble_eq_true rfl, Nat.le_of_ble_eq_true rfl⟩) ⟨fun a U g mk q => by obtain ⟨q0, q1, qP, qK, qD, qZ⟩ := q; exact ⟨q0, q1, qP, va_K.moved (u := U) (U := U.calling g mk a) (Vm.Alike.refl U.vm) qK, qD, qZ.call⟩, va_recv hKc hPc (ci := 12) (q0 := 0) rfl rfl, fun U hU hW => ⟨rfl, by rw [hU], by rw [hU]; exact hPc, va_K.moved hW.alike hKc, hDc.weaken (fun _ _ _ _ => trivial), by rw [hU]; exact hZc.warm hW⟩⟩ rfl rfl hl.1 rfl (lv_room (Nat.le_of_ble_eq_true rfl)) dL_law_1535 ⟨Nat.le_of_ble_eq_true rfl, Nat.le_of_ble_eq_true rfl⟩) hS (fun q _ h => hFc q h) hFc (fun r_6 u t H1 locs ht hvm hw hB hz1 hk1 hS => ?_)
  obtain ⟨hP1, hK1, hD1⟩ := hB
  rw [ht] at hP1
  have hK1 := va_K.moved hvm.symm hK1
  obtain ⟨hP, hD⟩ := va_join (wr := [(qm, .inl (cM, 12, .inr (.inr (.inr (.inr (fun _ => none)))))), (qt, .inl (cT, 4, .inr (.inr (.inr (.inr (fun _ => none)))))), (qd, .inl (cD, 1, .inr (.inr (.inr (.inl (fun _ => 0)))))), (qo, .inl (cL, 1, .inr (.inl (vp_updL (fun _ => 0) ((0 : Int32).toNatClampNeg) 0))))]) (w1 := [(m0, .inr (12, [.int 0, .ref l1, .ref l2, .int 0, .int 0, .int 0, .long 0]))]) hP hD [2, 3, 4] [0, 1, 5, 6] rfl rfl (by decide) (by decide) hk1 hFc hP1 hD1
  have hK := (hK.sub (tys' := [(cM, .object "Haltingale$Machine"), (cT, .object "Haltingale$Tag"), (cL, .long), (cD, .double), (cL, .long)]) [0, 1, 2, 3, 4] rfl).app hK1
  generalize H1 = H at hP hS ⊢
  have hP : va_P (dC, dI) vwCl [(qm, .inl (cM, 12, .inr (.inr (.inr (.inr (fun _ => none)))))), (qt, .inl (cT, 4, .inr (.inr (.inr (.inr (fun _ => none)))))), (qd, .inl (cD, 1, .inr (.inr (.inr (.inl (fun _ => 0)))))), (qo, .inl (cL, 1, .inr (.inl (vp_updL (fun _ => 0) ((0 : Int32).toNatClampNeg) 0)))), (m0, .inr (12, [.int 0, .ref l1, .ref l2, .int 0, .int 0, .int 0, .long 0]))] H := hP
  have hD : va_D A [(qm, .inl (cM, 12, .inr (.inr (.inr (.inr (fun _ => none)))))), (qt, .inl (cT, 4, .inr (.inr (.inr (.inr (fun _ => none)))))), (qd, .inl (cD, 1, .inr (.inr (.inr (.inl (fun _ => 0)))))), (qo, .inl (cL, 1, .inr (.inl (vp_updL (fun _ => 0) ((0 : Int32).toNatClampNeg) 0)))), (m0, .inr (12, [.int 0, .ref l1, .ref l2, .int 0, .int 0, .int 0, .long 0]))] := hD
  have hK : va_K (dC, dI) vwCl [(cM, .object "Haltingale$Machine"), (cT, .object "Haltingale$Tag"), (cL, .long), (cD, .double), (cL, .long)] s := hK
  refine W.widen (k := 34) (n := 4344) (Nat.le_of_ble_eq_true rfl) (Nat.le_of_ble_eq_true rfl) ?_
  obtain rfl : r_6 = 0 := hw
  refine lv_istore (lv' := [(7, .int 0), (6, .int 0), (5, .int 0), (4, .ref qd), (3, .ref qo), (2, .ref m0), (1, .ref x0), (0, .ref b)]) hx hb dL_law_1538 hl (by decide) rfl (fun ls hl => ?_)
  refine lv_aload_n hx hb dL_law_1540 rfl (lv_at hl 5 rfl) ?_
  have hPc := hP.sub (ws' := [(m0, .inr (12, [.int 0, .ref l1, .ref l2, .int 0, .int 0, .int 0, .long 0]))]) [4] rfl
  have hDc := hD.sub (ws' := [(m0, .inr (12, [.int 0, .ref l1, .ref l2, .int 0, .int 0, .int 0, .long 0]))]) [4] (by decide) rfl
  have hKc := hK.sub (tys' := []) [] rfl
  have hFc := va_free (wc := [(m0, .inr (12, [.int 0, .ref l1, .ref l2, .int 0, .int 0, .int 0, .long 0]))]) hD hS hA [4] rfl
  have hZc := ((hZ.kept hS.2.1).narrow hFc)
  refine va_calli (va_runV (As := []) (rest := []) ⟨hx, hb, hml, hown, hts⟩ (c_X10_thrown l hnt dC dI a0 m0 l1 l2 0 H.size ) (cwV 0 hts (goodIn_of _ (by decide +kernel)) rfl rfl rfl (by decide +kernel) ⟨Nat.le_of_ble_eq_true rfl, Nat.le_of_ble_eq_true rfl⟩) ⟨fun a U g mk q => by obtain ⟨q0, q1, qP, qK, qD, qZ⟩ := q; exact ⟨q0, q1, qP, va_K.moved (u := U) (U := U.calling g mk a) (Vm.Alike.refl U.vm) qK, qD, qZ.call⟩, va_recv hKc hPc (ci := 12) (q0 := 0) rfl rfl, fun U hU hW => ⟨rfl, by rw [hU], by rw [hU]; exact hPc, va_K.moved hW.alike hKc, hDc.weaken (fun _ _ _ _ => trivial), by rw [hU]; exact hZc.warm hW⟩⟩ rfl rfl hl.1 rfl (lv_room (Nat.le_of_ble_eq_true rfl)) dL_law_1541 ⟨Nat.le_of_ble_eq_true rfl, Nat.le_of_ble_eq_true rfl⟩) hS (fun q _ h => hFc q h) hFc (fun r_7 u t H1 locs ht hvm hw hB hz1 hk1 hS => ?_)
  obtain ⟨hP1, hK1, hD1⟩ := hB
  rw [ht] at hP1
  have hK1 := va_K.moved hvm.symm hK1
  obtain ⟨hP, hD⟩ := va_join (wr := [(qm, .inl (cM, 12, .inr (.inr (.inr (.inr (fun _ => none)))))), (qt, .inl (cT, 4, .inr (.inr (.inr (.inr (fun _ => none)))))), (qd, .inl (cD, 1, .inr (.inr (.inr (.inl (fun _ => 0)))))), (qo, .inl (cL, 1, .inr (.inl (vp_updL (fun _ => 0) ((0 : Int32).toNatClampNeg) 0))))]) (w1 := []) hP hD [4] [0, 1, 2, 3] rfl rfl (by decide) (by decide) hk1 hFc hP1 hD1
  have hK := (hK.sub (tys' := [(cM, .object "Haltingale$Machine"), (cT, .object "Haltingale$Tag"), (cL, .long), (cD, .double), (cL, .long)]) [0, 1, 2, 3, 4] rfl).app hK1
  generalize H1 = H at hP hS ⊢
  have hP : va_P (dC, dI) vwCl [(qm, .inl (cM, 12, .inr (.inr (.inr (.inr (fun _ => none)))))), (qt, .inl (cT, 4, .inr (.inr (.inr (.inr (fun _ => none)))))), (qd, .inl (cD, 1, .inr (.inr (.inr (.inl (fun _ => 0)))))), (qo, .inl (cL, 1, .inr (.inl (vp_updL (fun _ => 0) ((0 : Int32).toNatClampNeg) 0))))] H := hP
  have hD : va_D A [(qm, .inl (cM, 12, .inr (.inr (.inr (.inr (fun _ => none)))))), (qt, .inl (cT, 4, .inr (.inr (.inr (.inr (fun _ => none)))))), (qd, .inl (cD, 1, .inr (.inr (.inr (.inl (fun _ => 0)))))), (qo, .inl (cL, 1, .inr (.inl (vp_updL (fun _ => 0) ((0 : Int32).toNatClampNeg) 0))))] := hD
  have hK : va_K (dC, dI) vwCl [(cM, .object "Haltingale$Machine"), (cT, .object "Haltingale$Tag"), (cL, .long), (cD, .double), (cL, .long)] s := hK
  refine W.widen (k := 34) (n := 4344) (Nat.le_of_ble_eq_true rfl) (Nat.le_of_ble_eq_true rfl) ?_
  obtain rfl : r_7 = 0 := hw
  refine lv_iload hx hb dL_law_1544 (lv_at hl 1 rfl) ?_
  refine lv_icmp_eq (tgt := 1551) hx hb dL_law_1546 (by decide) (fun c_8 => ?_) (fun c_8 => ?_)
  rotate_left
  · (first | exact absurd c_8 (by decide) | exact absurd (by decide) c_8)
  refine lv_iload hx hb dL_law_1551 (lv_at hl 1 rfl) ?_
  refine lv_if_ne (tgt := 1568) hx hb dL_law_1553 (by decide) (fun c_9 => ?_) (fun c_9 => ?_)
  · (first | exact absurd c_9 (by decide) | exact absurd (by decide) c_9)
  refine lv_aload_n hx hb dL_law_1556 rfl (lv_at hl 4 rfl) ?_
  refine lv_iconst (v := 0) hx hb dL_law_1557 (by decide) ?_
  refine va_lald hx hb hK hP 3 2 rfl rfl (by unfold vp_in; decide) dL_law_1558 ?_
  refine lv_topl (fun y_10 ey_10 => ?_)
  obtain rfl : y_10 = 0 := ey_10.trans (by decide +kernel)
  refine lv_iload hx hb dL_law_1559 (lv_at hl 0 rfl) ?_
  refine lv_i2l (v := 0) hx hb dL_law_1561 (by decide) ?_
  refine W.lcmp hx hb dL_law_1562 ?_
  refine lv_topi (fun x_11 ex_11 => ?_)
  obtain rfl : x_11 = 0 := ex_11.trans (by decide +kernel)
  refine lv_if_eq (tgt := 1568) hx hb dL_law_1563 (by decide) (fun c_12 => ?_) (fun c_12 => ?_)
  rotate_left
  · (first | exact absurd c_12 (by decide) | exact absurd (by decide) c_12)
  refine lv_goto (tgt := 1806) hx hb dL_law_1568 (by decide) ?_
  refine lv_iinc (v := 7) (lv' := [(5, .int 7), (7, .int 0), (6, .int 0), (4, .ref qd), (3, .ref qo), (2, .ref m0), (1, .ref x0), (0, .ref b)]) hx hb dL_law_1806 hl (k := 2) rfl (by decide) (by decide) rfl (fun ls hl => ?_)
  refine lv_goto (tgt := 28) hx hb dL_law_1809 (by decide) ?_
  refine lv_iload hx hb dL_law_28 (lv_at hl 0 rfl) ?_
  refine lv_aload_n hx hb dL_law_30 rfl (lv_at hl 7 rfl) ?_
  refine va_slen hx hb hX hbl hbA hS dL_law_31 ?_
  refine lv_topi (fun x_13 ex_13 => ?_)
  obtain rfl : x_13 = 7 := ex_13.trans (by decide)
  refine lv_bipush (v := 7) hx hb dL_law_32 (by decide) ?_
  refine lv_isub hx hb dL_law_34 ?_
  refine lv_topi (fun x_14 ex_14 => ?_)
  obtain rfl : x_14 = 0 := ex_14.trans (by decide)
  refine lv_icmp_gt (tgt := 1812) hx hb dL_law_35 (by decide) (fun c_15 => ?_) (fun c_15 => ?_)
  rotate_left
  · (first | exact absurd c_15 (by decide) | exact absurd (by decide) c_15)
  refine lv_iconst (v := 1) hx hb dL_law_1812 (by decide) ?_
  refine va_forget (fun q hq => hA2 _ (hS.2.2 q hq)) ?_
  refine W.widen (k := room_1.cells) (n := room_1.slots) (Nat.le_of_ble_eq_true rfl) (Nat.le_of_ble_eq_true rfl) ?_
  exact lw_ret0 hx hb hr hlocks dL_law_1813

set_option maxHeartbeats 4000000 in
set_option maxRecDepth 100000 in
/-- the law, case 4 -/
theorem law_4_no1 {p : Program} {l : Launch} (hnt : l.stackTraces = false) {e : Env} {s : State} {m : MethodId} {below : List Frame} {meth : Method} {c : Code} {dC : Nat → ClassId} {dI : Nat → Nat → Nat} {a0 b : Nat} {xs : Nat → Int32} (C0 : lw_At p s m meth c b 7 xs) {A : Nat → Prop} (hA : ∀ q : Nat, s.heap.size ≤ q → A q) (hA2 : ∀ q : Nat, A q → s.heap.size ≤ q) (hZ : zB a0 A s s.heap) {x0 : Nat} {qm : Nat} {qt : Nat} {qw : Nat} {qc : Nat} {qb : Nat} {qg : Nat} {m0 : Nat} {l1 : Nat} {l2 : Nat} {qo : Nat} {qd : Nat} {cM : ClassId} {cT : ClassId} {cL : ClassId} {cD : ClassId} {H : Heap} {locs : List Loc} (hK : va_K (dC, dI) vwCl [(cM, .object "Haltingale$Machine"), (cT, .object "Haltingale$Tag"), (cL, .long), (cD, .double)] s) (hP : va_P (dC, dI) vwCl [(x0, .inr (9, [.ref qm, .ref qt, .ref qw, .ref qc, .ref qb, .ref qg, .int 0, .int 0, .int 0, .int 0, .int 0])), (qm, .inl (cM, 12, .inr (.inr (.inr (.inr (fun _ => none)))))), (qt, .inl (cT, 4, .inr (.inr (.inr (.inr (fun _ => none)))))), (m0, .inr (12, [.int 0, .ref l1, .ref l2, .int 0, .int 0, .int 0, .long 0])), (l1, .inr (1, [.int 0, .ref a0, .int 0])), (l2, .inr (1, [.int 0, .ref a0, .int 0])), (qo, .inl (cL, 1, .inr (.inl (fun _ => 0)))), (qd, .inl (cD, 1, .inr (.inr (.inr (.inl (fun _ => 0))))))] H) (hD : va_D A [(x0, .inr (9, [.ref qm, .ref qt, .ref qw, .ref qc, .ref qb, .ref qg, .int 0, .int 0, .int 0, .int 0, .int 0])), (qm, .inl (cM, 12, .inr (.inr (.inr (.inr (fun _ => none)))))), (qt, .inl (cT, 4, .inr (.inr (.inr (.inr (fun _ => none)))))), (m0, .inr (12, [.int 0, .ref l1, .ref l2, .int 0, .int 0, .int 0, .long 0])), (l1, .inr (1, [.int 0, .ref a0, .int 0])), (l2, .inr (1, [.int 0, .ref a0, .int 0])), (qo, .inl (cL, 1, .inr (.inl (fun _ => 0)))), (qd, .inl (cD, 1, .inr (.inr (.inr (.inl (fun _ => 0))))))]) (hS : va_S A s.heap H locs) {ls : Array Slot} (hl : lv_has ls 10 [(5, .int 0), (4, .ref qd), (3, .ref qo), (2, .ref m0), (1, .ref x0), (0, .ref b)]) (hp0 : zw (xs ((1 : Int32).toNatClampNeg)) 1 3 = 0) : W p l e room_1 s m #[Value.ref b] below meth c H locs 31 4324 (lw_Z below #[Value.ref b] s) (F0 m 519 ls []) := by
  obtain ⟨hx, hb, hr, hml, hown, hts0, hX, hbl, hlocks, hgv⟩ := C0
  have hts : ∀ w ∈ zs_law, w.before #[Value.ref b] s = true := fun w h => hts0 w (zs_law_in w h)
  have hbA : ¬ A b := fun h => absurd (hA2 b h) (Nat.not_le.mpr hbl)
  refine lv_aload_n hx hb dL_law_519 rfl (lv_at hl 4 rfl) ?_
  refine lv_aload_n hx hb dL_law_520 rfl (lv_at hl 5 rfl) ?_
  refine lv_iload hx hb dL_law_521 (lv_at hl 0 rfl) ?_
  refine lv_iconst (v := 1) hx hb dL_law_523 (by decide) ?_
  refine lv_iadd hx hb dL_law_524 ?_
  refine lv_topi (fun x_1 ex_1 => ?_)
  obtain rfl : x_1 = 1 := ex_1.trans (by decide)
  refine va_sld hx hb hX hbl hbA hS (by unfold vp_in; decide) dL_law_525 ?_
  refine lv_aload_n hx hb dL_law_526 rfl (lv_at hl 5 rfl) ?_
  refine lv_iload hx hb dL_law_527 (lv_at hl 0 rfl) ?_
  refine lv_iconst (v := 2) hx hb dL_law_529 (by decide) ?_
  refine lv_iadd hx hb dL_law_530 ?_
  refine lv_topi (fun x_2 ex_2 => ?_)
  obtain rfl : x_2 = 2 := ex_2.trans (by decide)
  refine va_sld hx hb hX hbl hbA hS (by unfold vp_in; decide) dL_law_531 ?_
  refine lv_aload_n hx hb dL_law_532 rfl (lv_at hl 5 rfl) ?_
  refine lv_iload hx hb dL_law_533 (lv_at hl 0 rfl) ?_
  refine lv_iconst (v := 3) hx hb dL_law_535 (by decide) ?_
  refine lv_iadd hx hb dL_law_536 ?_
  refine lv_topi (fun x_3 ex_3 => ?_)
  obtain rfl : x_3 = 3 := ex_3.trans (by decide)
  refine va_sld hx hb hX hbl hbA hS (by unfold vp_in; decide) dL_law_537 ?_
  refine lv_aload_n hx hb dL_law_538 rfl (lv_at hl 2 rfl) ?_
  have hPc := hP.sub (ws' := [(x0, .inr (9, [.ref qm, .ref qt, .ref qw, .ref qc, .ref qb, .ref qg, .int 0, .int 0, .int 0, .int 0, .int 0])), (qo, .inl (cL, 1, .inr (.inl (fun _ => 0))))]) [0, 6] rfl
  have hDc := hD.sub (ws' := [(x0, .inr (9, [.ref qm, .ref qt, .ref qw, .ref qc, .ref qb, .ref qg, .int 0, .int 0, .int 0, .int 0, .int 0])), (qo, .inl (cL, 1, .inr (.inl (fun _ => 0))))]) [0, 6] (by decide) rfl
  have hKc := hK.sub (tys' := [(cL, .long)]) [2] rfl
  have hFc := va_free (wc := [(x0, .inr (9, [.ref qm, .ref qt, .ref qw, .ref qc, .ref qb, .ref qg, .int 0, .int 0, .int 0, .int 0, .int 0])), (qo, .inl (cL, 1, .inr (.inl (fun _ => 0))))]) hD hS hA [0, 6] rfl
  have hZc := ((hZ.kept hS.2.1).narrow hFc)
  refine va_calli (vx_runSW (As := [.ref x0, .int (xs ((1 : Int32).toNatClampNeg)), .int (xs ((2 : Int32).toNatClampNeg)), .int (xs ((3 : Int32).toNatClampNeg)), .ref qo]) (rest := []) ⟨hx, hb, hml, hown, hts⟩ (c_L_tag_no1 l hnt dC dI a0 x0 qm qt qw qc qb qg qo cL ((xs ((1 : Int32).toNatClampNeg))) ((xs ((2 : Int32).toNatClampNeg))) ((xs ((3 : Int32).toNatClampNeg))) H.size (by first | assumption | decide)) (vx_cwSW 5 hts (goodIn_of _ (by decide +kernel)) rfl rfl rfl (by decide +kernel) ⟨Nat.le_of_ble_eq_true rfl, Nat.le_of_ble_eq_true rfl⟩) ⟨fun a U g mk q => by obtain ⟨q0, q1, qP, qK, qD, qZ⟩ := q; exact ⟨q0, q1, qP, va_K.moved (u := U) (U := U.calling g mk a) (Vm.Alike.refl U.vm) qK, qD, qZ.call⟩, fun U hU hW => ⟨rfl, by rw [hU], by rw [hU]; exact hPc, va_K.moved hW.alike hKc, hDc.weaken (fun _ _ _ _ => trivial), by rw [hU]; exact hZc.warm hW⟩⟩ rfl rfl hl.1 rfl (lv_room (Nat.le_of_ble_eq_true rfl)) dL_law_539 ⟨Nat.le_of_ble_eq_true rfl, Nat.le_of_ble_eq_true rfl⟩) hS (fun q _ h => hFc q h) hFc (fun r_4 u t H1 locs ht hvm hw hB hz1 hk1 hS => ?_)
  obtain ⟨hP1, hK1, hD1⟩ := hB
  rw [ht] at hP1
  have hK1 := va_K.moved hvm.symm hK1
  obtain ⟨hP, hD⟩ := va_join (wr := [(qm, .inl (cM, 12, .inr (.inr (.inr (.inr (fun _ => none)))))), (qt, .inl (cT, 4, .inr (.inr (.inr (.inr (fun _ => none)))))), (m0, .inr (12, [.int 0, .ref l1, .ref l2, .int 0, .int 0, .int 0, .long 0])), (l1, .inr (1, [.int 0, .ref a0, .int 0])), (l2, .inr (1, [.int 0, .ref a0, .int 0])), (qd, .inl (cD, 1, .inr (.inr (.inr (.inl (fun _ => 0))))))]) (w1 := []) hP hD [0, 6] [1, 2, 3, 4, 5, 7] rfl rfl (by decide) (by decide) hk1 hFc hP1 hD1
  have hK := (hK.sub (tys' := [(cM, .object "Haltingale$Machine"), (cT, .object "Haltingale$Tag"), (cL, .long), (cD, .double)]) [0, 1, 2, 3] rfl).app hK1
  generalize H1 = H at hP hS ⊢
  have hP : va_P (dC, dI) vwCl [(qm, .inl (cM, 12, .inr (.inr (.inr (.inr (fun _ => none)))))), (qt, .inl (cT, 4, .inr (.inr (.inr (.inr (fun _ => none)))))), (m0, .inr (12, [.int 0, .ref l1, .ref l2, .int 0, .int 0, .int 0, .long 0])), (l1, .inr (1, [.int 0, .ref a0, .int 0])), (l2, .inr (1, [.int 0, .ref a0, .int 0])), (qd, .inl (cD, 1, .inr (.inr (.inr (.inl (fun _ => 0))))))] H := hP
  have hD : va_D A [(qm, .inl (cM, 12, .inr (.inr (.inr (.inr (fun _ => none)))))), (qt, .inl (cT, 4, .inr (.inr (.inr (.inr (fun _ => none)))))), (m0, .inr (12, [.int 0, .ref l1, .ref l2, .int 0, .int 0, .int 0, .long 0])), (l1, .inr (1, [.int 0, .ref a0, .int 0])), (l2, .inr (1, [.int 0, .ref a0, .int 0])), (qd, .inl (cD, 1, .inr (.inr (.inr (.inl (fun _ => 0))))))] := hD
  have hK : va_K (dC, dI) vwCl [(cM, .object "Haltingale$Machine"), (cT, .object "Haltingale$Tag"), (cL, .long), (cD, .double)] s := hK
  refine W.widen (k := 32) (n := 4330) (Nat.le_of_ble_eq_true rfl) (Nat.le_of_ble_eq_true rfl) ?_
  obtain rfl : r_4 = 1 := hw
  refine lv_istore (lv' := [(6, .int 1), (5, .int 0), (4, .ref qd), (3, .ref qo), (2, .ref m0), (1, .ref x0), (0, .ref b)]) hx hb dL_law_542 hl (by decide) rfl (fun ls hl => ?_)
  refine lv_aload_n hx hb dL_law_544 rfl (lv_at hl 4 rfl) ?_
  refine lv_aload_n hx hb dL_law_545 rfl (lv_at hl 6 rfl) ?_
  refine lv_iload hx hb dL_law_546 (lv_at hl 1 rfl) ?_
  refine lv_iconst (v := 1) hx hb dL_law_548 (by decide) ?_
  refine lv_iadd hx hb dL_law_549 ?_
  refine lv_topi (fun x_5 ex_5 => ?_)
  obtain rfl : x_5 = 1 := ex_5.trans (by decide)
  refine va_sld hx hb hX hbl hbA hS (by unfold vp_in; decide) dL_law_550 ?_
  refine lv_aload_n hx hb dL_law_551 rfl (lv_at hl 6 rfl) ?_
  refine lv_iload hx hb dL_law_552 (lv_at hl 1 rfl) ?_
  refine lv_iconst (v := 2) hx hb dL_law_554 (by decide) ?_
  refine lv_iadd hx hb dL_law_555 ?_
  refine lv_topi (fun x_6 ex_6 => ?_)
  obtain rfl : x_6 = 2 := ex_6.trans (by decide)
  refine va_sld hx hb hX hbl hbA hS (by unfold vp_in; decide) dL_law_556 ?_
  refine lv_aload_n hx hb dL_law_557 rfl (lv_at hl 6 rfl) ?_
  refine lv_iload hx hb dL_law_558 (lv_at hl 1 rfl) ?_
  refine lv_iconst (v := 3) hx hb dL_law_560 (by decide) ?_
  refine lv_iadd hx hb dL_law_561 ?_
  refine lv_topi (fun x_7 ex_7 => ?_)
  obtain rfl : x_7 = 3 := ex_7.trans (by decide)
  refine va_sld hx hb hX hbl hbA hS (by unfold vp_in; decide) dL_law_562 ?_
  have hPc := hP.sub (ws' := [(m0, .inr (12, [.int 0, .ref l1, .ref l2, .int 0, .int 0, .int 0, .long 0]))]) [2] rfl
  have hDc := hD.sub (ws' := [(m0, .inr (12, [.int 0, .ref l1, .ref l2, .int 0, .int 0, .int 0, .long 0]))]) [2] (by decide) rfl
  have hKc := hK.sub (tys' := []) [] rfl
  have hFc := va_free (wc := [(m0, .inr (12, [.int 0, .ref l1, .ref l2, .int 0, .int 0, .int 0, .long 0]))]) hD hS hA [2] rfl
  have hZc := ((hZ.kept hS.2.1).narrow hFc)
  refine va_calli (va_runV (As := [.int (xs ((1 : Int32).toNatClampNeg)), .int (xs ((2 : Int32).toNatClampNeg)), .int (xs ((3 : Int32).toNatClampNeg))]) (rest := []) ⟨hx, hb, hml, hown, hts⟩ (c_X10_tag_no1 l hnt dC dI a0 m0 l1 l2 ((xs ((1 : Int32).toNatClampNeg))) ((xs ((2 : Int32).toNatClampNeg))) ((xs ((3 : Int32).toNatClampNeg))) H.size (by first | assumption | decide)) (cwV 3 hts (goodIn_of _ (by decide +kernel)) rfl rfl rfl (by decide +kernel) ⟨Nat.le_of_ble_eq_true rfl, Nat.le_of_ble_eq_true rfl⟩) ⟨fun a U g mk q => by obtain ⟨q0, q1, qP, qK, qD, qZ⟩ := q; exact ⟨q0, q1, qP, va_K.moved (u := U) (U := U.calling g mk a) (Vm.Alike.refl U.vm) qK, qD, qZ.call⟩, va_recv hKc hPc (ci := 12) (q0 := 0) rfl rfl, fun U hU hW => ⟨rfl, by rw [hU], by rw [hU]; exact hPc, va_K.moved hW.alike hKc, hDc.weaken (fun _ _ _ _ => trivial), by rw [hU]; exact hZc.warm hW⟩⟩ rfl rfl hl.1 rfl (lv_room (Nat.le_of_ble_eq_true rfl)) dL_law_563 ⟨Nat.le_of_ble_eq_true rfl, Nat.le_of_ble_eq_true rfl⟩) hS (fun q _ h => hFc q h) hFc (fun r_8 u t H1 locs ht hvm hw hB hz1 hk1 hS => ?_)
  obtain ⟨hP1, hK1, hD1⟩ := hB
  rw [ht] at hP1
  have hK1 := va_K.moved hvm.symm hK1
  obtain ⟨hP, hD⟩ := va_join (wr := [(qm, .inl (cM, 12, .inr (.inr (.inr (.inr (fun _ => none)))))), (qt, .inl (cT, 4, .inr (.inr (.inr (.inr (fun _ => none)))))), (l1, .inr (1, [.int 0, .ref a0, .int 0])), (l2, .inr (1, [.int 0, .ref a0, .int 0])), (qd, .inl (cD, 1, .inr (.inr (.inr (.inl (fun _ => 0))))))]) (w1 := [(m0, .inr (12, [.int 1, .ref l1, .ref l2, .int 0, .int 0, .int 0, .long 0]))]) hP hD [2] [0, 1, 3, 4, 5] rfl rfl (by decide) (by decide) hk1 hFc hP1 hD1
  have hK := (hK.sub (tys' := [(cM, .object "Haltingale$Machine"), (cT, .object "Haltingale$Tag"), (cL, .long), (cD, .double)]) [0, 1, 2, 3] rfl).app hK1
  generalize H1 = H at hP hS ⊢
  have hP : va_P (dC, dI) vwCl [(qm, .inl (cM, 12, .inr (.inr (.inr (.inr (fun _ => none)))))), (qt, .inl (cT, 4, .inr (.inr (.inr (.inr (fun _ => none)))))), (l1, .inr (1, [.int 0, .ref a0, .int 0])), (l2, .inr (1, [.int 0, .ref a0, .int 0])), (qd, .inl (cD, 1, .inr (.inr (.inr (.inl (fun _ => 0)))))), (m0, .inr (12, [.int 1, .ref l1, .ref l2, .int 0, .int 0, .int 0, .long 0]))] H := hP
  have hD : va_D A [(qm, .inl (cM, 12, .inr (.inr (.inr (.inr (fun _ => none)))))), (qt, .inl (cT, 4, .inr (.inr (.inr (.inr (fun _ => none)))))), (l1, .inr (1, [.int 0, .ref a0, .int 0])), (l2, .inr (1, [.int 0, .ref a0, .int 0])), (qd, .inl (cD, 1, .inr (.inr (.inr (.inl (fun _ => 0)))))), (m0, .inr (12, [.int 1, .ref l1, .ref l2, .int 0, .int 0, .int 0, .long 0]))] := hD
  have hK : va_K (dC, dI) vwCl [(cM, .object "Haltingale$Machine"), (cT, .object "Haltingale$Tag"), (cL, .long), (cD, .double)] s := hK
  refine W.widen (k := 32) (n := 4330) (Nat.le_of_ble_eq_true rfl) (Nat.le_of_ble_eq_true rfl) ?_
  obtain rfl : r_8 = 0 := hw
  refine lv_istore (lv' := [(7, .int 0), (6, .int 1), (5, .int 0), (4, .ref qd), (3, .ref qo), (2, .ref m0), (1, .ref x0), (0, .ref b)]) hx hb dL_law_566 hl (by decide) rfl (fun ls hl => ?_)
  refine lv_aload_n hx hb dL_law_568 rfl (lv_at hl 5 rfl) ?_
  have hPc := hP.sub (ws' := [(m0, .inr (12, [.int 1, .ref l1, .ref l2, .int 0, .int 0, .int 0, .long 0]))]) [5] rfl
  have hDc := hD.sub (ws' := [(m0, .inr (12, [.int 1, .ref l1, .ref l2, .int 0, .int 0, .int 0, .long 0]))]) [5] (by decide) rfl
  have hKc := hK.sub (tys' := []) [] rfl
  have hFc := va_free (wc := [(m0, .inr (12, [.int 1, .ref l1, .ref l2, .int 0, .int 0, .int 0, .long 0]))]) hD hS hA [5] rfl
  have hZc := ((hZ.kept hS.2.1).narrow hFc)
  refine va_calli (va_runV (As := []) (rest := []) ⟨hx, hb, hml, hown, hts⟩ (c_X10_thrown l hnt dC dI a0 m0 l1 l2 1 H.size ) (cwV 0 hts (goodIn_of _ (by decide +kernel)) rfl rfl rfl (by decide +kernel) ⟨Nat.le_of_ble_eq_true rfl, Nat.le_of_ble_eq_true rfl⟩) ⟨fun a U g mk q => by obtain ⟨q0, q1, qP, qK, qD, qZ⟩ := q; exact ⟨q0, q1, qP, va_K.moved (u := U) (U := U.calling g mk a) (Vm.Alike.refl U.vm) qK, qD, qZ.call⟩, va_recv hKc hPc (ci := 12) (q0 := 0) rfl rfl, fun U hU hW => ⟨rfl, by rw [hU], by rw [hU]; exact hPc, va_K.moved hW.alike hKc, hDc.weaken (fun _ _ _ _ => trivial), by rw [hU]; exact hZc.warm hW⟩⟩ rfl rfl hl.1 rfl (lv_room (Nat.le_of_ble_eq_true rfl)) dL_law_569 ⟨Nat.le_of_ble_eq_true rfl, Nat.le_of_ble_eq_true rfl⟩) hS (fun q _ h => hFc q h) hFc (fun r_9 u t H1 locs ht hvm hw hB hz1 hk1 hS => ?_)
  obtain ⟨hP1, hK1, hD1⟩ := hB
  rw [ht] at hP1
  have hK1 := va_K.moved hvm.symm hK1
  obtain ⟨hP, hD⟩ := va_join (wr := [(qm, .inl (cM, 12, .inr (.inr (.inr (.inr (fun _ => none)))))), (qt, .inl (cT, 4, .inr (.inr (.inr (.inr (fun _ => none)))))), (l1, .inr (1, [.int 0, .ref a0, .int 0])), (l2, .inr (1, [.int 0, .ref a0, .int 0])), (qd, .inl (cD, 1, .inr (.inr (.inr (.inl (fun _ => 0))))))]) (w1 := []) hP hD [5] [0, 1, 2, 3, 4] rfl rfl (by decide) (by decide) hk1 hFc hP1 hD1
  have hK := (hK.sub (tys' := [(cM, .object "Haltingale$Machine"), (cT, .object "Haltingale$Tag"), (cL, .long), (cD, .double)]) [0, 1, 2, 3] rfl).app hK1
  generalize H1 = H at hP hS ⊢
  have hP : va_P (dC, dI) vwCl [(qm, .inl (cM, 12, .inr (.inr (.inr (.inr (fun _ => none)))))), (qt, .inl (cT, 4, .inr (.inr (.inr (.inr (fun _ => none)))))), (l1, .inr (1, [.int 0, .ref a0, .int 0])), (l2, .inr (1, [.int 0, .ref a0, .int 0])), (qd, .inl (cD, 1, .inr (.inr (.inr (.inl (fun _ => 0))))))] H := hP
  have hD : va_D A [(qm, .inl (cM, 12, .inr (.inr (.inr (.inr (fun _ => none)))))), (qt, .inl (cT, 4, .inr (.inr (.inr (.inr (fun _ => none)))))), (l1, .inr (1, [.int 0, .ref a0, .int 0])), (l2, .inr (1, [.int 0, .ref a0, .int 0])), (qd, .inl (cD, 1, .inr (.inr (.inr (.inl (fun _ => 0))))))] := hD
  have hK : va_K (dC, dI) vwCl [(cM, .object "Haltingale$Machine"), (cT, .object "Haltingale$Tag"), (cL, .long), (cD, .double)] s := hK
  refine W.widen (k := 32) (n := 4330) (Nat.le_of_ble_eq_true rfl) (Nat.le_of_ble_eq_true rfl) ?_
  obtain rfl : r_9 = 1 := hw
  refine lv_iload hx hb dL_law_572 (lv_at hl 1 rfl) ?_
  refine lv_icmp_eq (tgt := 579) hx hb dL_law_574 (by decide) (fun c_10 => ?_) (fun c_10 => ?_)
  rotate_left
  · (first | exact absurd c_10 (by decide) | exact absurd (by decide) c_10)
  refine lv_iload hx hb dL_law_579 (lv_at hl 1 rfl) ?_
  refine lv_if_ne (tgt := 596) hx hb dL_law_581 (by decide) (fun c_11 => ?_) (fun c_11 => ?_)
  rotate_left
  · (first | exact absurd c_11 (by decide) | exact absurd (by decide) c_11)
  refine lv_goto (tgt := 1806) hx hb dL_law_596 (by decide) ?_
  refine lv_iinc (v := 7) (lv' := [(5, .int 7), (7, .int 0), (6, .int 1), (4, .ref qd), (3, .ref qo), (2, .ref m0), (1, .ref x0), (0, .ref b)]) hx hb dL_law_1806 hl (k := 2) rfl (by decide) (by decide) rfl (fun ls hl => ?_)
  refine lv_goto (tgt := 28) hx hb dL_law_1809 (by decide) ?_
  refine lv_iload hx hb dL_law_28 (lv_at hl 0 rfl) ?_
  refine lv_aload_n hx hb dL_law_30 rfl (lv_at hl 7 rfl) ?_
  refine va_slen hx hb hX hbl hbA hS dL_law_31 ?_
  refine lv_topi (fun x_12 ex_12 => ?_)
  obtain rfl : x_12 = 7 := ex_12.trans (by decide)
  refine lv_bipush (v := 7) hx hb dL_law_32 (by decide) ?_
  refine lv_isub hx hb dL_law_34 ?_
  refine lv_topi (fun x_13 ex_13 => ?_)
  obtain rfl : x_13 = 0 := ex_13.trans (by decide)
  refine lv_icmp_gt (tgt := 1812) hx hb dL_law_35 (by decide) (fun c_14 => ?_) (fun c_14 => ?_)
  rotate_left
  · (first | exact absurd c_14 (by decide) | exact absurd (by decide) c_14)
  refine lv_iconst (v := 1) hx hb dL_law_1812 (by decide) ?_
  refine va_forget (fun q hq => hA2 _ (hS.2.2 q hq)) ?_
  refine W.widen (k := room_1.cells) (n := room_1.slots) (Nat.le_of_ble_eq_true rfl) (Nat.le_of_ble_eq_true rfl) ?_
  exact lw_ret0 hx hb hr hlocks dL_law_1813

set_option maxHeartbeats 4000000 in
set_option maxRecDepth 100000 in
/-- the law, case 4 -/
theorem law_4_no2 {p : Program} {l : Launch} (hnt : l.stackTraces = false) {e : Env} {s : State} {m : MethodId} {below : List Frame} {meth : Method} {c : Code} {dC : Nat → ClassId} {dI : Nat → Nat → Nat} {a0 b : Nat} {xs : Nat → Int32} (C0 : lw_At p s m meth c b 7 xs) {A : Nat → Prop} (hA : ∀ q : Nat, s.heap.size ≤ q → A q) (hA2 : ∀ q : Nat, A q → s.heap.size ≤ q) (hZ : zB a0 A s s.heap) {x0 : Nat} {qm : Nat} {qt : Nat} {qw : Nat} {qc : Nat} {qb : Nat} {qg : Nat} {m0 : Nat} {l1 : Nat} {l2 : Nat} {qo : Nat} {qd : Nat} {cM : ClassId} {cT : ClassId} {cL : ClassId} {cD : ClassId} {H : Heap} {locs : List Loc} (hK : va_K (dC, dI) vwCl [(cM, .object "Haltingale$Machine"), (cT, .object "Haltingale$Tag"), (cL, .long), (cD, .double)] s) (hP : va_P (dC, dI) vwCl [(x0, .inr (9, [.ref qm, .ref qt, .ref qw, .ref qc, .ref qb, .ref qg, .int 0, .int 0, .int 0, .int 0, .int 0])), (qm, .inl (cM, 12, .inr (.inr (.inr (.inr (fun _ => none)))))), (qt, .inl (cT, 4, .inr (.inr (.inr (.inr (fun _ => none)))))), (m0, .inr (12, [.int 0, .ref l1, .ref l2, .int 0, .int 0, .int 0, .long 0])), (l1, .inr (1, [.int 0, .ref a0, .int 0])), (l2, .inr (1, [.int 0, .ref a0, .int 0])), (qo, .inl (cL, 1, .inr (.inl (fun _ => 0)))), (qd, .inl (cD, 1, .inr (.inr (.inr (.inl (fun _ => 0))))))] H) (hD : va_D A [(x0, .inr (9, [.ref qm, .ref qt, .ref qw, .ref qc, .ref qb, .ref qg, .int 0, .int 0, .int 0, .int 0, .int 0])), (qm, .inl (cM, 12, .inr (.inr (.inr (.inr (fun _ => none)))))), (qt, .inl (cT, 4, .inr (.inr (.inr (.inr (fun _ => none)))))), (m0, .inr (12, [.int 0, .ref l1, .ref l2, .int 0, .int 0, .int 0, .long 0])), (l1, .inr (1, [.int 0, .ref a0, .int 0])), (l2, .inr (1, [.int 0, .ref a0, .int 0])), (qo, .inl (cL, 1, .inr (.inl (fun _ => 0)))), (qd, .inl (cD, 1, .inr (.inr (.inr (.inl (fun _ => 0))))))]) (hS : va_S A s.heap H locs) {ls : Array Slot} (hl : lv_has ls 10 [(5, .int 0), (4, .ref qd), (3, .ref qo), (2, .ref m0), (1, .ref x0), (0, .ref b)]) (hp0 : zw (xs ((1 : Int32).toNatClampNeg)) 1 3 = 1) (hp1 : zw (xs ((2 : Int32).toNatClampNeg)) 1 63 = 0) : W p l e room_1 s m #[Value.ref b] below meth c H locs 31 4324 (lw_Z below #[Value.ref b] s) (F0 m 519 ls []) := by
  obtain ⟨hx, hb, hr, hml, hown, hts0, hX, hbl, hlocks, hgv⟩ := C0
  have hts : ∀ w ∈ zs_law, w.before #[Value.ref b] s = true := fun w h => hts0 w (zs_law_in w h)
  have hbA : ¬ A b := fun h => absurd (hA2 b h) (Nat.not_le.mpr hbl)
  refine lv_aload_n hx hb dL_law_519 rfl (lv_at hl 4 rfl) ?_
  refine lv_aload_n hx hb dL_law_520 rfl (lv_at hl 5 rfl) ?_
  refine lv_iload hx hb dL_law_521 (lv_at hl 0 rfl) ?_
  refine lv_iconst (v := 1) hx hb dL_law_523 (by decide) ?_
  refine lv_iadd hx hb dL_law_524 ?_
  refine lv_topi (fun x_1 ex_1 => ?_)
  obtain rfl : x_1 = 1 := ex_1.trans (by decide)
  refine va_sld hx hb hX hbl hbA hS (by unfold vp_in; decide) dL_law_525 ?_
  refine lv_aload_n hx hb dL_law_526 rfl (lv_at hl 5 rfl) ?_
  refine lv_iload hx hb dL_law_527 (lv_at hl 0 rfl) ?_
  refine lv_iconst (v := 2) hx hb dL_law_529 (by decide) ?_
  refine lv_iadd hx hb dL_law_530 ?_
  refine lv_topi (fun x_2 ex_2 => ?_)
  obtain rfl : x_2 = 2 := ex_2.trans (by decide)
  refine va_sld hx hb hX hbl hbA hS (by unfold vp_in; decide) dL_law_531 ?_
  refine lv_aload_n hx hb dL_law_532 rfl (lv_at hl 5 rfl) ?_
  refine lv_iload hx hb dL_law_533 (lv_at hl 0 rfl) ?_
  refine lv_iconst (v := 3) hx hb dL_law_535 (by decide) ?_
  refine lv_iadd hx hb dL_law_536 ?_
  refine lv_topi (fun x_3 ex_3 => ?_)
  obtain rfl : x_3 = 3 := ex_3.trans (by decide)
  refine va_sld hx hb hX hbl hbA hS (by unfold vp_in; decide) dL_law_537 ?_
  refine lv_aload_n hx hb dL_law_538 rfl (lv_at hl 2 rfl) ?_
  have hPc := hP.sub (ws' := [(x0, .inr (9, [.ref qm, .ref qt, .ref qw, .ref qc, .ref qb, .ref qg, .int 0, .int 0, .int 0, .int 0, .int 0])), (qo, .inl (cL, 1, .inr (.inl (fun _ => 0))))]) [0, 6] rfl
  have hDc := hD.sub (ws' := [(x0, .inr (9, [.ref qm, .ref qt, .ref qw, .ref qc, .ref qb, .ref qg, .int 0, .int 0, .int 0, .int 0, .int 0])), (qo, .inl (cL, 1, .inr (.inl (fun _ => 0))))]) [0, 6] (by decide) rfl
  have hKc := hK.sub (tys' := [(cL, .long)]) [2] rfl
  have hFc := va_free (wc := [(x0, .inr (9, [.ref qm, .ref qt, .ref qw, .ref qc, .ref qb, .ref qg, .int 0, .int 0, .int 0, .int 0, .int 0])), (qo, .inl (cL, 1, .inr (.inl (fun _ => 0))))]) hD hS hA [0, 6] rfl
  have hZc := ((hZ.kept hS.2.1).narrow hFc)
  refine va_calli (vx_runSW (As := [.ref x0, .int (xs ((1 : Int32).toNatClampNeg)), .int (xs ((2 : Int32).toNatClampNeg)), .int (xs ((3 : Int32).toNatClampNeg)), .ref qo]) (rest := []) ⟨hx, hb, hml, hown, hts⟩ (c_L_tag_no2 l hnt dC dI a0 x0 qm qt qw qc qb qg qo cL ((xs ((1 : Int32).toNatClampNeg))) ((xs ((2 : Int32).toNatClampNeg))) ((xs ((3 : Int32).toNatClampNeg))) H.size (by first | assumption | decide) (by first | assumption | decide)) (vx_cwSW 5 hts (goodIn_of _ (by decide +kernel)) rfl rfl rfl (by decide +kernel) ⟨Nat.le_of_ble_eq_true rfl, Nat.le_of_ble_eq_true rfl⟩) ⟨fun a U g mk q => by obtain ⟨q0, q1, qP, qK, qD, qZ⟩ := q; exact ⟨q0, q1, qP, va_K.moved (u := U) (U := U.calling g mk a) (Vm.Alike.refl U.vm) qK, qD, qZ.call⟩, fun U hU hW => ⟨rfl, by rw [hU], by rw [hU]; exact hPc, va_K.moved hW.alike hKc, hDc.weaken (fun _ _ _ _ => trivial), by rw [hU]; exact hZc.warm hW⟩⟩ rfl rfl hl.1 rfl (lv_room (Nat.le_of_ble_eq_true rfl)) dL_law_539 ⟨Nat.le_of_ble_eq_true rfl, Nat.le_of_ble_eq_true rfl⟩) hS (fun q _ h => hFc q h) hFc (fun r_4 u t H1 locs ht hvm hw hB hz1 hk1 hS => ?_)
  obtain ⟨hP1, hK1, hD1⟩ := hB
  rw [ht] at hP1
  have hK1 := va_K.moved hvm.symm hK1
  obtain ⟨hP, hD⟩ := va_join (wr := [(qm, .inl (cM, 12, .inr (.inr (.inr (.inr (fun _ => none)))))), (qt, .inl (cT, 4, .inr (.inr (.inr (.inr (fun _ => none)))))), (m0, .inr (12, [.int 0, .ref l1, .ref l2, .int 0, .int 0, .int 0, .long 0])), (l1, .inr (1, [.int 0, .ref a0, .int 0])), (l2, .inr (1, [.int 0, .ref a0, .int 0])), (qd, .inl (cD, 1, .inr (.inr (.inr (.inl (fun _ => 0))))))]) (w1 := []) hP hD [0, 6] [1, 2, 3, 4, 5, 7] rfl rfl (by decide) (by decide) hk1 hFc hP1 hD1
  have hK := (hK.sub (tys' := [(cM, .object "Haltingale$Machine"), (cT, .object "Haltingale$Tag"), (cL, .long), (cD, .double)]) [0, 1, 2, 3] rfl).app hK1
  generalize H1 = H at hP hS ⊢
  have hP : va_P (dC, dI) vwCl [(qm, .inl (cM, 12, .inr (.inr (.inr (.inr (fun _ => none)))))), (qt, .inl (cT, 4, .inr (.inr (.inr (.inr (fun _ => none)))))), (m0, .inr (12, [.int 0, .ref l1, .ref l2, .int 0, .int 0, .int 0, .long 0])), (l1, .inr (1, [.int 0, .ref a0, .int 0])), (l2, .inr (1, [.int 0, .ref a0, .int 0])), (qd, .inl (cD, 1, .inr (.inr (.inr (.inl (fun _ => 0))))))] H := hP
  have hD : va_D A [(qm, .inl (cM, 12, .inr (.inr (.inr (.inr (fun _ => none)))))), (qt, .inl (cT, 4, .inr (.inr (.inr (.inr (fun _ => none)))))), (m0, .inr (12, [.int 0, .ref l1, .ref l2, .int 0, .int 0, .int 0, .long 0])), (l1, .inr (1, [.int 0, .ref a0, .int 0])), (l2, .inr (1, [.int 0, .ref a0, .int 0])), (qd, .inl (cD, 1, .inr (.inr (.inr (.inl (fun _ => 0))))))] := hD
  have hK : va_K (dC, dI) vwCl [(cM, .object "Haltingale$Machine"), (cT, .object "Haltingale$Tag"), (cL, .long), (cD, .double)] s := hK
  refine W.widen (k := 32) (n := 4330) (Nat.le_of_ble_eq_true rfl) (Nat.le_of_ble_eq_true rfl) ?_
  obtain rfl : r_4 = 1 := hw
  refine lv_istore (lv' := [(6, .int 1), (5, .int 0), (4, .ref qd), (3, .ref qo), (2, .ref m0), (1, .ref x0), (0, .ref b)]) hx hb dL_law_542 hl (by decide) rfl (fun ls hl => ?_)
  refine lv_aload_n hx hb dL_law_544 rfl (lv_at hl 4 rfl) ?_
  refine lv_aload_n hx hb dL_law_545 rfl (lv_at hl 6 rfl) ?_
  refine lv_iload hx hb dL_law_546 (lv_at hl 1 rfl) ?_
  refine lv_iconst (v := 1) hx hb dL_law_548 (by decide) ?_
  refine lv_iadd hx hb dL_law_549 ?_
  refine lv_topi (fun x_5 ex_5 => ?_)
  obtain rfl : x_5 = 1 := ex_5.trans (by decide)
  refine va_sld hx hb hX hbl hbA hS (by unfold vp_in; decide) dL_law_550 ?_
  refine lv_aload_n hx hb dL_law_551 rfl (lv_at hl 6 rfl) ?_
  refine lv_iload hx hb dL_law_552 (lv_at hl 1 rfl) ?_
  refine lv_iconst (v := 2) hx hb dL_law_554 (by decide) ?_
  refine lv_iadd hx hb dL_law_555 ?_
  refine lv_topi (fun x_6 ex_6 => ?_)
  obtain rfl : x_6 = 2 := ex_6.trans (by decide)
  refine va_sld hx hb hX hbl hbA hS (by unfold vp_in; decide) dL_law_556 ?_
  refine lv_aload_n hx hb dL_law_557 rfl (lv_at hl 6 rfl) ?_
  refine lv_iload hx hb dL_law_558 (lv_at hl 1 rfl) ?_
  refine lv_iconst (v := 3) hx hb dL_law_560 (by decide) ?_
  refine lv_iadd hx hb dL_law_561 ?_
  refine lv_topi (fun x_7 ex_7 => ?_)
  obtain rfl : x_7 = 3 := ex_7.trans (by decide)
  refine va_sld hx hb hX hbl hbA hS (by unfold vp_in; decide) dL_law_562 ?_
  have hPc := hP.sub (ws' := [(m0, .inr (12, [.int 0, .ref l1, .ref l2, .int 0, .int 0, .int 0, .long 0]))]) [2] rfl
  have hDc := hD.sub (ws' := [(m0, .inr (12, [.int 0, .ref l1, .ref l2, .int 0, .int 0, .int 0, .long 0]))]) [2] (by decide) rfl
  have hKc := hK.sub (tys' := []) [] rfl
  have hFc := va_free (wc := [(m0, .inr (12, [.int 0, .ref l1, .ref l2, .int 0, .int 0, .int 0, .long 0]))]) hD hS hA [2] rfl
  have hZc := ((hZ.kept hS.2.1).narrow hFc)
  refine va_calli (va_runV (As := [.int (xs ((1 : Int32).toNatClampNeg)), .int (xs ((2 : Int32).toNatClampNeg)), .int (xs ((3 : Int32).toNatClampNeg))]) (rest := []) ⟨hx, hb, hml, hown, hts⟩ (c_X10_tag_no2 l hnt dC dI a0 m0 l1 l2 ((xs ((1 : Int32).toNatClampNeg))) ((xs ((2 : Int32).toNatClampNeg))) ((xs ((3 : Int32).toNatClampNeg))) H.size (by first | assumption | decide) (by first | assumption | decide)) (cwV 3 hts (goodIn_of _ (by decide +kernel)) rfl rfl rfl (by decide +kernel) ⟨Nat.le_of_ble_eq_true rfl, Nat.le_of_ble_eq_true rfl⟩) ⟨fun a U g mk q => by obtain ⟨q0, q1, qP, qK, qD, qZ⟩ := q; exact ⟨q0, q1, qP, va_K.moved (u := U) (U := U.calling g mk a) (Vm.Alike.refl U.vm) qK, qD, qZ.call⟩, va_recv hKc hPc (ci := 12) (q0 := 0) rfl rfl, fun U hU hW => ⟨rfl, by rw [hU], by rw [hU]; exact hPc, va_K.moved hW.alike hKc, hDc.weaken (fun _ _ _ _ => trivial), by rw [hU]; exact hZc.warm hW⟩⟩ rfl rfl hl.1 rfl (lv_room (Nat.le_of_ble_eq_true rfl)) dL_law_563 ⟨Nat.le_of_ble_eq_true rfl, Nat.le_of_ble_eq_true rfl⟩) hS (fun q _ h => hFc q h) hFc (fun r_8 u t H1 locs ht hvm hw hB hz1 hk1 hS => ?_)
  obtain ⟨hP1, hK1, hD1⟩ := hB
  rw [ht] at hP1
  have hK1 := va_K.moved hvm.symm hK1
  obtain ⟨hP, hD⟩ := va_join (wr := [(qm, .inl (cM, 12, .inr (.inr (.inr (.inr (fun _ => none)))))), (qt, .inl (cT, 4, .inr (.inr (.inr (.inr (fun _ => none)))))), (l1, .inr (1, [.int 0, .ref a0, .int 0])), (l2, .inr (1, [.int 0, .ref a0, .int 0])), (qd, .inl (cD, 1, .inr (.inr (.inr (.inl (fun _ => 0))))))]) (w1 := [(m0, .inr (12, [.int 1, .ref l1, .ref l2, .int 0, .int 0, .int 0, .long 0]))]) hP hD [2] [0, 1, 3, 4, 5] rfl rfl (by decide) (by decide) hk1 hFc hP1 hD1
  have hK := (hK.sub (tys' := [(cM, .object "Haltingale$Machine"), (cT, .object "Haltingale$Tag"), (cL, .long), (cD, .double)]) [0, 1, 2, 3] rfl).app hK1
  generalize H1 = H at hP hS ⊢
  have hP : va_P (dC, dI) vwCl [(qm, .inl (cM, 12, .inr (.inr (.inr (.inr (fun _ => none)))))), (qt, .inl (cT, 4, .inr (.inr (.inr (.inr (fun _ => none)))))), (l1, .inr (1, [.int 0, .ref a0, .int 0])), (l2, .inr (1, [.int 0, .ref a0, .int 0])), (qd, .inl (cD, 1, .inr (.inr (.inr (.inl (fun _ => 0)))))), (m0, .inr (12, [.int 1, .ref l1, .ref l2, .int 0, .int 0, .int 0, .long 0]))] H := hP
  have hD : va_D A [(qm, .inl (cM, 12, .inr (.inr (.inr (.inr (fun _ => none)))))), (qt, .inl (cT, 4, .inr (.inr (.inr (.inr (fun _ => none)))))), (l1, .inr (1, [.int 0, .ref a0, .int 0])), (l2, .inr (1, [.int 0, .ref a0, .int 0])), (qd, .inl (cD, 1, .inr (.inr (.inr (.inl (fun _ => 0)))))), (m0, .inr (12, [.int 1, .ref l1, .ref l2, .int 0, .int 0, .int 0, .long 0]))] := hD
  have hK : va_K (dC, dI) vwCl [(cM, .object "Haltingale$Machine"), (cT, .object "Haltingale$Tag"), (cL, .long), (cD, .double)] s := hK
  refine W.widen (k := 32) (n := 4330) (Nat.le_of_ble_eq_true rfl) (Nat.le_of_ble_eq_true rfl) ?_
  obtain rfl : r_8 = 0 := hw
  refine lv_istore (lv' := [(7, .int 0), (6, .int 1), (5, .int 0), (4, .ref qd), (3, .ref qo), (2, .ref m0), (1, .ref x0), (0, .ref b)]) hx hb dL_law_566 hl (by decide) rfl (fun ls hl => ?_)
  refine lv_aload_n hx hb dL_law_568 rfl (lv_at hl 5 rfl) ?_
  have hPc := hP.sub (ws' := [(m0, .inr (12, [.int 1, .ref l1, .ref l2, .int 0, .int 0, .int 0, .long 0]))]) [5] rfl
  have hDc := hD.sub (ws' := [(m0, .inr (12, [.int 1, .ref l1, .ref l2, .int 0, .int 0, .int 0, .long 0]))]) [5] (by decide) rfl
  have hKc := hK.sub (tys' := []) [] rfl
  have hFc := va_free (wc := [(m0, .inr (12, [.int 1, .ref l1, .ref l2, .int 0, .int 0, .int 0, .long 0]))]) hD hS hA [5] rfl
  have hZc := ((hZ.kept hS.2.1).narrow hFc)
  refine va_calli (va_runV (As := []) (rest := []) ⟨hx, hb, hml, hown, hts⟩ (c_X10_thrown l hnt dC dI a0 m0 l1 l2 1 H.size ) (cwV 0 hts (goodIn_of _ (by decide +kernel)) rfl rfl rfl (by decide +kernel) ⟨Nat.le_of_ble_eq_true rfl, Nat.le_of_ble_eq_true rfl⟩) ⟨fun a U g mk q => by obtain ⟨q0, q1, qP, qK, qD, qZ⟩ := q; exact ⟨q0, q1, qP, va_K.moved (u := U) (U := U.calling g mk a) (Vm.Alike.refl U.vm) qK, qD, qZ.call⟩, va_recv hKc hPc (ci := 12) (q0 := 0) rfl rfl, fun U hU hW => ⟨rfl, by rw [hU], by rw [hU]; exact hPc, va_K.moved hW.alike hKc, hDc.weaken (fun _ _ _ _ => trivial), by rw [hU]; exact hZc.warm hW⟩⟩ rfl rfl hl.1 rfl (lv_room (Nat.le_of_ble_eq_true rfl)) dL_law_569 ⟨Nat.le_of_ble_eq_true rfl, Nat.le_of_ble_eq_true rfl⟩) hS (fun q _ h => hFc q h) hFc (fun r_9 u t H1 locs ht hvm hw hB hz1 hk1 hS => ?_)
  obtain ⟨hP1, hK1, hD1⟩ := hB
  rw [ht] at hP1
  have hK1 := va_K.moved hvm.symm hK1
  obtain ⟨hP, hD⟩ := va_join (wr := [(qm, .inl (cM, 12, .inr (.inr (.inr (.inr (fun _ => none)))))), (qt, .inl (cT, 4, .inr (.inr (.inr (.inr (fun _ => none)))))), (l1, .inr (1, [.int 0, .ref a0, .int 0])), (l2, .inr (1, [.int 0, .ref a0, .int 0])), (qd, .inl (cD, 1, .inr (.inr (.inr (.inl (fun _ => 0))))))]) (w1 := []) hP hD [5] [0, 1, 2, 3, 4] rfl rfl (by decide) (by decide) hk1 hFc hP1 hD1
  have hK := (hK.sub (tys' := [(cM, .object "Haltingale$Machine"), (cT, .object "Haltingale$Tag"), (cL, .long), (cD, .double)]) [0, 1, 2, 3] rfl).app hK1
  generalize H1 = H at hP hS ⊢
  have hP : va_P (dC, dI) vwCl [(qm, .inl (cM, 12, .inr (.inr (.inr (.inr (fun _ => none)))))), (qt, .inl (cT, 4, .inr (.inr (.inr (.inr (fun _ => none)))))), (l1, .inr (1, [.int 0, .ref a0, .int 0])), (l2, .inr (1, [.int 0, .ref a0, .int 0])), (qd, .inl (cD, 1, .inr (.inr (.inr (.inl (fun _ => 0))))))] H := hP
  have hD : va_D A [(qm, .inl (cM, 12, .inr (.inr (.inr (.inr (fun _ => none)))))), (qt, .inl (cT, 4, .inr (.inr (.inr (.inr (fun _ => none)))))), (l1, .inr (1, [.int 0, .ref a0, .int 0])), (l2, .inr (1, [.int 0, .ref a0, .int 0])), (qd, .inl (cD, 1, .inr (.inr (.inr (.inl (fun _ => 0))))))] := hD
  have hK : va_K (dC, dI) vwCl [(cM, .object "Haltingale$Machine"), (cT, .object "Haltingale$Tag"), (cL, .long), (cD, .double)] s := hK
  refine W.widen (k := 32) (n := 4330) (Nat.le_of_ble_eq_true rfl) (Nat.le_of_ble_eq_true rfl) ?_
  obtain rfl : r_9 = 1 := hw
  refine lv_iload hx hb dL_law_572 (lv_at hl 1 rfl) ?_
  refine lv_icmp_eq (tgt := 579) hx hb dL_law_574 (by decide) (fun c_10 => ?_) (fun c_10 => ?_)
  rotate_left
  · (first | exact absurd c_10 (by decide) | exact absurd (by decide) c_10)
  refine lv_iload hx hb dL_law_579 (lv_at hl 1 rfl) ?_
  refine lv_if_ne (tgt := 596) hx hb dL_law_581 (by decide) (fun c_11 => ?_) (fun c_11 => ?_)
  rotate_left
  · (first | exact absurd c_11 (by decide) | exact absurd (by decide) c_11)
  refine lv_goto (tgt := 1806) hx hb dL_law_596 (by decide) ?_
  refine lv_iinc (v := 7) (lv' := [(5, .int 7), (7, .int 0), (6, .int 1), (4, .ref qd), (3, .ref qo), (2, .ref m0), (1, .ref x0), (0, .ref b)]) hx hb dL_law_1806 hl (k := 2) rfl (by decide) (by decide) rfl (fun ls hl => ?_)
  refine lv_goto (tgt := 28) hx hb dL_law_1809 (by decide) ?_
  refine lv_iload hx hb dL_law_28 (lv_at hl 0 rfl) ?_
  refine lv_aload_n hx hb dL_law_30 rfl (lv_at hl 7 rfl) ?_
  refine va_slen hx hb hX hbl hbA hS dL_law_31 ?_
  refine lv_topi (fun x_12 ex_12 => ?_)
  obtain rfl : x_12 = 7 := ex_12.trans (by decide)
  refine lv_bipush (v := 7) hx hb dL_law_32 (by decide) ?_
  refine lv_isub hx hb dL_law_34 ?_
  refine lv_topi (fun x_13 ex_13 => ?_)
  obtain rfl : x_13 = 0 := ex_13.trans (by decide)
  refine lv_icmp_gt (tgt := 1812) hx hb dL_law_35 (by decide) (fun c_14 => ?_) (fun c_14 => ?_)
  rotate_left
  · (first | exact absurd c_14 (by decide) | exact absurd (by decide) c_14)
  refine lv_iconst (v := 1) hx hb dL_law_1812 (by decide) ?_
  refine va_forget (fun q hq => hA2 _ (hS.2.2 q hq)) ?_
  refine W.widen (k := room_1.cells) (n := room_1.slots) (Nat.le_of_ble_eq_true rfl) (Nat.le_of_ble_eq_true rfl) ?_
  exact lw_ret0 hx hb hr hlocks dL_law_1813

set_option maxHeartbeats 4000000 in
set_option maxRecDepth 100000 in
/-- the law, case 4 -/
theorem law_4_no3 {p : Program} {l : Launch} (hnt : l.stackTraces = false) {e : Env} {s : State} {m : MethodId} {below : List Frame} {meth : Method} {c : Code} {dC : Nat → ClassId} {dI : Nat → Nat → Nat} {a0 b : Nat} {xs : Nat → Int32} (C0 : lw_At p s m meth c b 7 xs) {A : Nat → Prop} (hA : ∀ q : Nat, s.heap.size ≤ q → A q) (hA2 : ∀ q : Nat, A q → s.heap.size ≤ q) (hZ : zB a0 A s s.heap) {x0 : Nat} {qm : Nat} {qt : Nat} {qw : Nat} {qc : Nat} {qb : Nat} {qg : Nat} {m0 : Nat} {l1 : Nat} {l2 : Nat} {qo : Nat} {qd : Nat} {cM : ClassId} {cT : ClassId} {cL : ClassId} {cD : ClassId} {H : Heap} {locs : List Loc} (hK : va_K (dC, dI) vwCl [(cM, .object "Haltingale$Machine"), (cT, .object "Haltingale$Tag"), (cL, .long), (cD, .double)] s) (hP : va_P (dC, dI) vwCl [(x0, .inr (9, [.ref qm, .ref qt, .ref qw, .ref qc, .ref qb, .ref qg, .int 0, .int 0, .int 0, .int 0, .int 0])), (qm, .inl (cM, 12, .inr (.inr (.inr (.inr (fun _ => none)))))), (qt, .inl (cT, 4, .inr (.inr (.inr (.inr (fun _ => none)))))), (m0, .inr (12, [.int 0, .ref l1, .ref l2, .int 0, .int 0, .int 0, .long 0])), (l1, .inr (1, [.int 0, .ref a0, .int 0])), (l2, .inr (1, [.int 0, .ref a0, .int 0])), (qo, .inl (cL, 1, .inr (.inl (fun _ => 0)))), (qd, .inl (cD, 1, .inr (.inr (.inr (.inl (fun _ => 0))))))] H) (hD : va_D A [(x0, .inr (9, [.ref qm, .ref qt, .ref qw, .ref qc, .ref qb, .ref qg, .int 0, .int 0, .int 0, .int 0, .int 0])), (qm, .inl (cM, 12, .inr (.inr (.inr (.inr (fun _ => none)))))), (qt, .inl (cT, 4, .inr (.inr (.inr (.inr (fun _ => none)))))), (m0, .inr (12, [.int 0, .ref l1, .ref l2, .int 0, .int 0, .int 0, .long 0])), (l1, .inr (1, [.int 0, .ref a0, .int 0])), (l2, .inr (1, [.int 0, .ref a0, .int 0])), (qo, .inl (cL, 1, .inr (.inl (fun _ => 0)))), (qd, .inl (cD, 1, .inr (.inr (.inr (.inl (fun _ => 0))))))]) (hS : va_S A s.heap H locs) {ls : Array Slot} (hl : lv_has ls 10 [(5, .int 0), (4, .ref qd), (3, .ref qo), (2, .ref m0), (1, .ref x0), (0, .ref b)]) (hp0 : zw (xs ((1 : Int32).toNatClampNeg)) 1 3 = 1) (hp1 : zw (xs ((2 : Int32).toNatClampNeg)) 1 63 = 1) (hp2 : zw (xs ((3 : Int32).toNatClampNeg)) 1 63 = 0) : W p l e room_1 s m #[Value.ref b] below meth c H locs 31 4324 (lw_Z below #[Value.ref b] s) (F0 m 519 ls []) := by
  obtain ⟨hx, hb, hr, hml, hown, hts0, hX, hbl, hlocks, hgv⟩ := C0
  have hts : ∀ w ∈ zs_law, w.before #[Value.ref b] s = true := fun w h => hts0 w (zs_law_in w h)
  have hbA : ¬ A b := fun h => absurd (hA2 b h) (Nat.not_le.mpr hbl)
  refine lv_aload_n hx hb dL_law_519 rfl (lv_at hl 4 rfl) ?_
  refine lv_aload_n hx hb dL_law_520 rfl (lv_at hl 5 rfl) ?_
  refine lv_iload hx hb dL_law_521 (lv_at hl 0 rfl) ?_
  refine lv_iconst (v := 1) hx hb dL_law_523 (by decide) ?_
  refine lv_iadd hx hb dL_law_524 ?_
  refine lv_topi (fun x_1 ex_1 => ?_)
  obtain rfl : x_1 = 1 := ex_1.trans (by decide)
  refine va_sld hx hb hX hbl hbA hS (by unfold vp_in; decide) dL_law_525 ?_
  refine lv_aload_n hx hb dL_law_526 rfl (lv_at hl 5 rfl) ?_
  refine lv_iload hx hb dL_law_527 (lv_at hl 0 rfl) ?_
  refine lv_iconst (v := 2) hx hb dL_law_529 (by decide) ?_
  refine lv_iadd hx hb dL_law_530 ?_
  refine lv_topi (fun x_2 ex_2 => ?_)
  obtain rfl : x_2 = 2 := ex_2.trans (by decide)
  refine va_sld hx hb hX hbl hbA hS (by unfold vp_in; decide) dL_law_531 ?_
  refine lv_aload_n hx hb dL_law_532 rfl (lv_at hl 5 rfl) ?_
  refine lv_iload hx hb dL_law_533 (lv_at hl 0 rfl) ?_
  refine lv_iconst (v := 3) hx hb dL_law_535 (by decide) ?_
  refine lv_iadd hx hb dL_law_536 ?_
  refine lv_topi (fun x_3 ex_3 => ?_)
  obtain rfl : x_3 = 3 := ex_3.trans (by decide)
  refine va_sld hx hb hX hbl hbA hS (by unfold vp_in; decide) dL_law_537 ?_
  refine lv_aload_n hx hb dL_law_538 rfl (lv_at hl 2 rfl) ?_
  have hPc := hP.sub (ws' := [(x0, .inr (9, [.ref qm, .ref qt, .ref qw, .ref qc, .ref qb, .ref qg, .int 0, .int 0, .int 0, .int 0, .int 0])), (qo, .inl (cL, 1, .inr (.inl (fun _ => 0))))]) [0, 6] rfl
  have hDc := hD.sub (ws' := [(x0, .inr (9, [.ref qm, .ref qt, .ref qw, .ref qc, .ref qb, .ref qg, .int 0, .int 0, .int 0, .int 0, .int 0])), (qo, .inl (cL, 1, .inr (.inl (fun _ => 0))))]) [0, 6] (by decide) rfl
  have hKc := hK.sub (tys' := [(cL, .long)]) [2] rfl
  have hFc := va_free (wc := [(x0, .inr (9, [.ref qm, .ref qt, .ref qw, .ref qc, .ref qb, .ref qg, .int 0, .int 0, .int 0, .int 0, .int 0])), (qo, .inl (cL, 1, .inr (.inl (fun _ => 0))))]) hD hS hA [0, 6] rfl
  have hZc := ((hZ.kept hS.2.1).narrow hFc)
  refine va_calli (vx_runSW (As := [.ref x0, .int (xs ((1 : Int32).toNatClampNeg)), .int (xs ((2 : Int32).toNatClampNeg)), .int (xs ((3 : Int32).toNatClampNeg)), .ref qo]) (rest := []) ⟨hx, hb, hml, hown, hts⟩ (c_L_tag_no3 l hnt dC dI a0 x0 qm qt qw qc qb qg qo cL ((xs ((1 : Int32).toNatClampNeg))) ((xs ((2 : Int32).toNatClampNeg))) ((xs ((3 : Int32).toNatClampNeg))) H.size (by first | assumption | decide) (by first | assumption | decide) (by first | assumption | decide)) (vx_cwSW 5 hts (goodIn_of _ (by decide +kernel)) rfl rfl rfl (by decide +kernel) ⟨Nat.le_of_ble_eq_true rfl, Nat.le_of_ble_eq_true rfl⟩) ⟨fun a U g mk q => by obtain ⟨q0, q1, qP, qK, qD, qZ⟩ := q; exact ⟨q0, q1, qP, va_K.moved (u := U) (U := U.calling g mk a) (Vm.Alike.refl U.vm) qK, qD, qZ.call⟩, fun U hU hW => ⟨rfl, by rw [hU], by rw [hU]; exact hPc, va_K.moved hW.alike hKc, hDc.weaken (fun _ _ _ _ => trivial), by rw [hU]; exact hZc.warm hW⟩⟩ rfl rfl hl.1 rfl (lv_room (Nat.le_of_ble_eq_true rfl)) dL_law_539 ⟨Nat.le_of_ble_eq_true rfl, Nat.le_of_ble_eq_true rfl⟩) hS (fun q _ h => hFc q h) hFc (fun r_4 u t H1 locs ht hvm hw hB hz1 hk1 hS => ?_)
  obtain ⟨hP1, hK1, hD1⟩ := hB
  rw [ht] at hP1
  have hK1 := va_K.moved hvm.symm hK1
  obtain ⟨hP, hD⟩ := va_join (wr := [(qm, .inl (cM, 12, .inr (.inr (.inr (.inr (fun _ => none)))))), (qt, .inl (cT, 4, .inr (.inr (.inr (.inr (fun _ => none)))))), (m0, .inr (12, [.int 0, .ref l1, .ref l2, .int 0, .int 0, .int 0, .long 0])), (l1, .inr (1, [.int 0, .ref a0, .int 0])), (l2, .inr (1, [.int 0, .ref a0, .int 0])), (qd, .inl (cD, 1, .inr (.inr (.inr (.inl (fun _ => 0))))))]) (w1 := []) hP hD [0, 6] [1, 2, 3, 4, 5, 7] rfl rfl (by decide) (by decide) hk1 hFc hP1 hD1
  have hK := (hK.sub (tys' := [(cM, .object "Haltingale$Machine"), (cT, .object "Haltingale$Tag"), (cL, .long), (cD, .double)]) [0, 1, 2, 3] rfl).app hK1
  generalize H1 = H at hP hS ⊢
  have hP : va_P (dC, dI) vwCl [(qm, .inl (cM, 12, .inr (.inr (.inr (.inr (fun _ => none)))))), (qt, .inl (cT, 4, .inr (.inr (.inr (.inr (fun _ => none)))))), (m0, .inr (12, [.int 0, .ref l1, .ref l2, .int 0, .int 0, .int 0, .long 0])), (l1, .inr (1, [.int 0, .ref a0, .int 0])), (l2, .inr (1, [.int 0, .ref a0, .int 0])), (qd, .inl (cD, 1, .inr (.inr (.inr (.inl (fun _ => 0))))))] H := hP
  have hD : va_D A [(qm, .inl (cM, 12, .inr (.inr (.inr (.inr (fun _ => none)))))), (qt, .inl (cT, 4, .inr (.inr (.inr (.inr (fun _ => none)))))), (m0, .inr (12, [.int 0, .ref l1, .ref l2, .int 0, .int 0, .int 0, .long 0])), (l1, .inr (1, [.int 0, .ref a0, .int 0])), (l2, .inr (1, [.int 0, .ref a0, .int 0])), (qd, .inl (cD, 1, .inr (.inr (.inr (.inl (fun _ => 0))))))] := hD
  have hK : va_K (dC, dI) vwCl [(cM, .object "Haltingale$Machine"), (cT, .object "Haltingale$Tag"), (cL, .long), (cD, .double)] s := hK
  refine W.widen (k := 32) (n := 4330) (Nat.le_of_ble_eq_true rfl) (Nat.le_of_ble_eq_true rfl) ?_
  obtain rfl : r_4 = 1 := hw
  refine lv_istore (lv' := [(6, .int 1), (5, .int 0), (4, .ref qd), (3, .ref qo), (2, .ref m0), (1, .ref x0), (0, .ref b)]) hx hb dL_law_542 hl (by decide) rfl (fun ls hl => ?_)
  refine lv_aload_n hx hb dL_law_544 rfl (lv_at hl 4 rfl) ?_
  refine lv_aload_n hx hb dL_law_545 rfl (lv_at hl 6 rfl) ?_
  refine lv_iload hx hb dL_law_546 (lv_at hl 1 rfl) ?_
  refine lv_iconst (v := 1) hx hb dL_law_548 (by decide) ?_
  refine lv_iadd hx hb dL_law_549 ?_
  refine lv_topi (fun x_5 ex_5 => ?_)
  obtain rfl : x_5 = 1 := ex_5.trans (by decide)
  refine va_sld hx hb hX hbl hbA hS (by unfold vp_in; decide) dL_law_550 ?_
  refine lv_aload_n hx hb dL_law_551 rfl (lv_at hl 6 rfl) ?_
  refine lv_iload hx hb dL_law_552 (lv_at hl 1 rfl) ?_
  refine lv_iconst (v := 2) hx hb dL_law_554 (by decide) ?_
  refine lv_iadd hx hb dL_law_555 ?_
  refine lv_topi (fun x_6 ex_6 => ?_)
  obtain rfl : x_6 = 2 := ex_6.trans (by decide)
  refine va_sld hx hb hX hbl hbA hS (by unfold vp_in; decide) dL_law_556 ?_
  refine lv_aload_n hx hb dL_law_557 rfl (lv_at hl 6 rfl) ?_
  refine lv_iload hx hb dL_law_558 (lv_at hl 1 rfl) ?_
  refine lv_iconst (v := 3) hx hb dL_law_560 (by decide) ?_
  refine lv_iadd hx hb dL_law_561 ?_
  refine lv_topi (fun x_7 ex_7 => ?_)
  obtain rfl : x_7 = 3 := ex_7.trans (by decide)
  refine va_sld hx hb hX hbl hbA hS (by unfold vp_in; decide) dL_law_562 ?_
  have hPc := hP.sub (ws' := [(m0, .inr (12, [.int 0, .ref l1, .ref l2, .int 0, .int 0, .int 0, .long 0]))]) [2] rfl
  have hDc := hD.sub (ws' := [(m0, .inr (12, [.int 0, .ref l1, .ref l2, .int 0, .int 0, .int 0, .long 0]))]) [2] (by decide) rfl
  have hKc := hK.sub (tys' := []) [] rfl
  have hFc := va_free (wc := [(m0, .inr (12, [.int 0, .ref l1, .ref l2, .int 0, .int 0, .int 0, .long 0]))]) hD hS hA [2] rfl
  have hZc := ((hZ.kept hS.2.1).narrow hFc)
  refine va_calli (va_runV (As := [.int (xs ((1 : Int32).toNatClampNeg)), .int (xs ((2 : Int32).toNatClampNeg)), .int (xs ((3 : Int32).toNatClampNeg))]) (rest := []) ⟨hx, hb, hml, hown, hts⟩ (c_X10_tag_no3 l hnt dC dI a0 m0 l1 l2 ((xs ((1 : Int32).toNatClampNeg))) ((xs ((2 : Int32).toNatClampNeg))) ((xs ((3 : Int32).toNatClampNeg))) H.size (by first | assumption | decide) (by first | assumption | decide) (by first | assumption | decide)) (cwV 3 hts (goodIn_of _ (by decide +kernel)) rfl rfl rfl (by decide +kernel) ⟨Nat.le_of_ble_eq_true rfl, Nat.le_of_ble_eq_true rfl⟩) ⟨fun a U g mk q => by obtain ⟨q0, q1, qP, qK, qD, qZ⟩ := q; exact ⟨q0, q1, qP, va_K.moved (u := U) (U := U.calling g mk a) (Vm.Alike.refl U.vm) qK, qD, qZ.call⟩, va_recv hKc hPc (ci := 12) (q0 := 0) rfl rfl, fun U hU hW => ⟨rfl, by rw [hU], by rw [hU]; exact hPc, va_K.moved hW.alike hKc, hDc.weaken (fun _ _ _ _ => trivial), by rw [hU]; exact hZc.warm hW⟩⟩ rfl rfl hl.1 rfl (lv_room (Nat.le_of_ble_eq_true rfl)) dL_law_563 ⟨Nat.le_of_ble_eq_true rfl, Nat.le_of_ble_eq_true rfl⟩) hS (fun q _ h => hFc q h) hFc (fun r_8 u t H1 locs ht hvm hw hB hz1 hk1 hS => ?_)
  obtain ⟨hP1, hK1, hD1⟩ := hB
  rw [ht] at hP1
  have hK1 := va_K.moved hvm.symm hK1
  obtain ⟨hP, hD⟩ := va_join (wr := [(qm, .inl (cM, 12, .inr (.inr (.inr (.inr (fun _ => none)))))), (qt, .inl (cT, 4, .inr (.inr (.inr (.inr (fun _ => none)))))), (l1, .inr (1, [.int 0, .ref a0, .int 0])), (l2, .inr (1, [.int 0, .ref a0, .int 0])), (qd, .inl (cD, 1, .inr (.inr (.inr (.inl (fun _ => 0))))))]) (w1 := [(m0, .inr (12, [.int 1, .ref l1, .ref l2, .int 0, .int 0, .int 0, .long 0]))]) hP hD [2] [0, 1, 3, 4, 5] rfl rfl (by decide) (by decide) hk1 hFc hP1 hD1
  have hK := (hK.sub (tys' := [(cM, .object "Haltingale$Machine"), (cT, .object "Haltingale$Tag"), (cL, .long), (cD, .double)]) [0, 1, 2, 3] rfl).app hK1
  generalize H1 = H at hP hS ⊢
  have hP : va_P (dC, dI) vwCl [(qm, .inl (cM, 12, .inr (.inr (.inr (.inr (fun _ => none)))))), (qt, .inl (cT, 4, .inr (.inr (.inr (.inr (fun _ => none)))))), (l1, .inr (1, [.int 0, .ref a0, .int 0])), (l2, .inr (1, [.int 0, .ref a0, .int 0])), (qd, .inl (cD, 1, .inr (.inr (.inr (.inl (fun _ => 0)))))), (m0, .inr (12, [.int 1, .ref l1, .ref l2, .int 0, .int 0, .int 0, .long 0]))] H := hP
  have hD : va_D A [(qm, .inl (cM, 12, .inr (.inr (.inr (.inr (fun _ => none)))))), (qt, .inl (cT, 4, .inr (.inr (.inr (.inr (fun _ => none)))))), (l1, .inr (1, [.int 0, .ref a0, .int 0])), (l2, .inr (1, [.int 0, .ref a0, .int 0])), (qd, .inl (cD, 1, .inr (.inr (.inr (.inl (fun _ => 0)))))), (m0, .inr (12, [.int 1, .ref l1, .ref l2, .int 0, .int 0, .int 0, .long 0]))] := hD
  have hK : va_K (dC, dI) vwCl [(cM, .object "Haltingale$Machine"), (cT, .object "Haltingale$Tag"), (cL, .long), (cD, .double)] s := hK
  refine W.widen (k := 32) (n := 4330) (Nat.le_of_ble_eq_true rfl) (Nat.le_of_ble_eq_true rfl) ?_
  obtain rfl : r_8 = 0 := hw
  refine lv_istore (lv' := [(7, .int 0), (6, .int 1), (5, .int 0), (4, .ref qd), (3, .ref qo), (2, .ref m0), (1, .ref x0), (0, .ref b)]) hx hb dL_law_566 hl (by decide) rfl (fun ls hl => ?_)
  refine lv_aload_n hx hb dL_law_568 rfl (lv_at hl 5 rfl) ?_
  have hPc := hP.sub (ws' := [(m0, .inr (12, [.int 1, .ref l1, .ref l2, .int 0, .int 0, .int 0, .long 0]))]) [5] rfl
  have hDc := hD.sub (ws' := [(m0, .inr (12, [.int 1, .ref l1, .ref l2, .int 0, .int 0, .int 0, .long 0]))]) [5] (by decide) rfl
  have hKc := hK.sub (tys' := []) [] rfl
  have hFc := va_free (wc := [(m0, .inr (12, [.int 1, .ref l1, .ref l2, .int 0, .int 0, .int 0, .long 0]))]) hD hS hA [5] rfl
  have hZc := ((hZ.kept hS.2.1).narrow hFc)
  refine va_calli (va_runV (As := []) (rest := []) ⟨hx, hb, hml, hown, hts⟩ (c_X10_thrown l hnt dC dI a0 m0 l1 l2 1 H.size ) (cwV 0 hts (goodIn_of _ (by decide +kernel)) rfl rfl rfl (by decide +kernel) ⟨Nat.le_of_ble_eq_true rfl, Nat.le_of_ble_eq_true rfl⟩) ⟨fun a U g mk q => by obtain ⟨q0, q1, qP, qK, qD, qZ⟩ := q; exact ⟨q0, q1, qP, va_K.moved (u := U) (U := U.calling g mk a) (Vm.Alike.refl U.vm) qK, qD, qZ.call⟩, va_recv hKc hPc (ci := 12) (q0 := 0) rfl rfl, fun U hU hW => ⟨rfl, by rw [hU], by rw [hU]; exact hPc, va_K.moved hW.alike hKc, hDc.weaken (fun _ _ _ _ => trivial), by rw [hU]; exact hZc.warm hW⟩⟩ rfl rfl hl.1 rfl (lv_room (Nat.le_of_ble_eq_true rfl)) dL_law_569 ⟨Nat.le_of_ble_eq_true rfl, Nat.le_of_ble_eq_true rfl⟩) hS (fun q _ h => hFc q h) hFc (fun r_9 u t H1 locs ht hvm hw hB hz1 hk1 hS => ?_)
  obtain ⟨hP1, hK1, hD1⟩ := hB
  rw [ht] at hP1
  have hK1 := va_K.moved hvm.symm hK1
  obtain ⟨hP, hD⟩ := va_join (wr := [(qm, .inl (cM, 12, .inr (.inr (.inr (.inr (fun _ => none)))))), (qt, .inl (cT, 4, .inr (.inr (.inr (.inr (fun _ => none)))))), (l1, .inr (1, [.int 0, .ref a0, .int 0])), (l2, .inr (1, [.int 0, .ref a0, .int 0])), (qd, .inl (cD, 1, .inr (.inr (.inr (.inl (fun _ => 0))))))]) (w1 := []) hP hD [5] [0, 1, 2, 3, 4] rfl rfl (by decide) (by decide) hk1 hFc hP1 hD1
  have hK := (hK.sub (tys' := [(cM, .object "Haltingale$Machine"), (cT, .object "Haltingale$Tag"), (cL, .long), (cD, .double)]) [0, 1, 2, 3] rfl).app hK1
  generalize H1 = H at hP hS ⊢
  have hP : va_P (dC, dI) vwCl [(qm, .inl (cM, 12, .inr (.inr (.inr (.inr (fun _ => none)))))), (qt, .inl (cT, 4, .inr (.inr (.inr (.inr (fun _ => none)))))), (l1, .inr (1, [.int 0, .ref a0, .int 0])), (l2, .inr (1, [.int 0, .ref a0, .int 0])), (qd, .inl (cD, 1, .inr (.inr (.inr (.inl (fun _ => 0))))))] H := hP
  have hD : va_D A [(qm, .inl (cM, 12, .inr (.inr (.inr (.inr (fun _ => none)))))), (qt, .inl (cT, 4, .inr (.inr (.inr (.inr (fun _ => none)))))), (l1, .inr (1, [.int 0, .ref a0, .int 0])), (l2, .inr (1, [.int 0, .ref a0, .int 0])), (qd, .inl (cD, 1, .inr (.inr (.inr (.inl (fun _ => 0))))))] := hD
  have hK : va_K (dC, dI) vwCl [(cM, .object "Haltingale$Machine"), (cT, .object "Haltingale$Tag"), (cL, .long), (cD, .double)] s := hK
  refine W.widen (k := 32) (n := 4330) (Nat.le_of_ble_eq_true rfl) (Nat.le_of_ble_eq_true rfl) ?_
  obtain rfl : r_9 = 1 := hw
  refine lv_iload hx hb dL_law_572 (lv_at hl 1 rfl) ?_
  refine lv_icmp_eq (tgt := 579) hx hb dL_law_574 (by decide) (fun c_10 => ?_) (fun c_10 => ?_)
  rotate_left
  · (first | exact absurd c_10 (by decide) | exact absurd (by decide) c_10)
  refine lv_iload hx hb dL_law_579 (lv_at hl 1 rfl) ?_
  refine lv_if_ne (tgt := 596) hx hb dL_law_581 (by decide) (fun c_11 => ?_) (fun c_11 => ?_)
  rotate_left
  · (first | exact absurd c_11 (by decide) | exact absurd (by decide) c_11)
  refine lv_goto (tgt := 1806) hx hb dL_law_596 (by decide) ?_
  refine lv_iinc (v := 7) (lv' := [(5, .int 7), (7, .int 0), (6, .int 1), (4, .ref qd), (3, .ref qo), (2, .ref m0), (1, .ref x0), (0, .ref b)]) hx hb dL_law_1806 hl (k := 2) rfl (by decide) (by decide) rfl (fun ls hl => ?_)
  refine lv_goto (tgt := 28) hx hb dL_law_1809 (by decide) ?_
  refine lv_iload hx hb dL_law_28 (lv_at hl 0 rfl) ?_
  refine lv_aload_n hx hb dL_law_30 rfl (lv_at hl 7 rfl) ?_
  refine va_slen hx hb hX hbl hbA hS dL_law_31 ?_
  refine lv_topi (fun x_12 ex_12 => ?_)
  obtain rfl : x_12 = 7 := ex_12.trans (by decide)
  refine lv_bipush (v := 7) hx hb dL_law_32 (by decide) ?_
  refine lv_isub hx hb dL_law_34 ?_
  refine lv_topi (fun x_13 ex_13 => ?_)
  obtain rfl : x_13 = 0 := ex_13.trans (by decide)
  refine lv_icmp_gt (tgt := 1812) hx hb dL_law_35 (by decide) (fun c_14 => ?_) (fun c_14 => ?_)
  rotate_left
  · (first | exact absurd c_14 (by decide) | exact absurd (by decide) c_14)
  refine lv_iconst (v := 1) hx hb dL_law_1812 (by decide) ?_
  refine va_forget (fun q hq => hA2 _ (hS.2.2 q hq)) ?_
  refine W.widen (k := room_1.cells) (n := room_1.slots) (Nat.le_of_ble_eq_true rfl) (Nat.le_of_ble_eq_true rfl) ?_
  exact lw_ret0 hx hb hr hlocks dL_law_1813

set_option maxHeartbeats 4000000 in
set_option maxRecDepth 100000 in
/-- the law, case 18 -/
theorem law_18 {p : Program} {l : Launch} (hnt : l.stackTraces = false) {e : Env} {s : State} {m : MethodId} {below : List Frame} {meth : Method} {c : Code} {dC : Nat → ClassId} {dI : Nat → Nat → Nat} {a0 b : Nat} {xs : Nat → Int32} (C0 : lw_At p s m meth c b 7 xs) {A : Nat → Prop} (hA : ∀ q : Nat, s.heap.size ≤ q → A q) (hA2 : ∀ q : Nat, A q → s.heap.size ≤ q) (hZ : zB a0 A s s.heap) {x0 : Nat} {qm : Nat} {qt : Nat} {qw : Nat} {qc : Nat} {qb : Nat} {qg : Nat} {m0 : Nat} {l1 : Nat} {l2 : Nat} {qo : Nat} {qd : Nat} {cM : ClassId} {cT : ClassId} {cL : ClassId} {cD : ClassId} {H : Heap} {locs : List Loc} (hK : va_K (dC, dI) vwCl [(cM, .object "Haltingale$Machine"), (cT, .object "Haltingale$Tag"), (cL, .long), (cD, .double)] s) (hP : va_P (dC, dI) vwCl [(x0, .inr (9, [.ref qm, .ref qt, .ref qw, .ref qc, .ref qb, .ref qg, .int 0, .int 0, .int 0, .int 0, .int 0])), (qm, .inl (cM, 12, .inr (.inr (.inr (.inr (fun _ => none)))))), (qt, .inl (cT, 4, .inr (.inr (.inr (.inr (fun _ => none)))))), (m0, .inr (12, [.int 0, .ref l1, .ref l2, .int 0, .int 0, .int 0, .long 0])), (l1, .inr (1, [.int 0, .ref a0, .int 0])), (l2, .inr (1, [.int 0, .ref a0, .int 0])), (qo, .inl (cL, 1, .inr (.inl (fun _ => 0)))), (qd, .inl (cD, 1, .inr (.inr (.inr (.inl (fun _ => 0))))))] H) (hD : va_D A [(x0, .inr (9, [.ref qm, .ref qt, .ref qw, .ref qc, .ref qb, .ref qg, .int 0, .int 0, .int 0, .int 0, .int 0])), (qm, .inl (cM, 12, .inr (.inr (.inr (.inr (fun _ => none)))))), (qt, .inl (cT, 4, .inr (.inr (.inr (.inr (fun _ => none)))))), (m0, .inr (12, [.int 0, .ref l1, .ref l2, .int 0, .int 0, .int 0, .long 0])), (l1, .inr (1, [.int 0, .ref a0, .int 0])), (l2, .inr (1, [.int 0, .ref a0, .int 0])), (qo, .inl (cL, 1, .inr (.inl (fun _ => 0)))), (qd, .inl (cD, 1, .inr (.inr (.inr (.inl (fun _ => 0))))))]) (hS : va_S A s.heap H locs) {ls : Array Slot} (hl : lv_has ls 10 [(5, .int 0), (4, .ref qd), (3, .ref qo), (2, .ref m0), (1, .ref x0), (0, .ref b)])  : W p l e room_1 s m #[Value.ref b] below meth c H locs 31 4324 (lw_Z below #[Value.ref b] s) (F0 m 1571 ls []) := by
  obtain ⟨hx, hb, hr, hml, hown, hts0, hX, hbl, hlocks, hgv⟩ := C0
  have hts : ∀ w ∈ zs_law, w.before #[Value.ref b] s = true := fun w h => hts0 w (zs_law_in w h)
  have hbA : ¬ A b := fun h => absurd (hA2 b h) (Nat.not_le.mpr hbl)
  refine lv_aload_n hx hb dL_law_1571 rfl (lv_at hl 4 rfl) ?_
  have hPc := hP.sub (ws' := [(x0, .inr (9, [.ref qm, .ref qt, .ref qw, .ref qc, .ref qb, .ref qg, .int 0, .int 0, .int 0, .int 0, .int 0]))]) [0] rfl
  have hDc := hD.sub (ws' := [(x0, .inr (9, [.ref qm, .ref qt, .ref qw, .ref qc, .ref qb, .ref qg, .int 0, .int 0, .int 0, .int 0, .int 0]))]) [0] (by decide) rfl
  have hKc := hK.sub (tys' := []) [] rfl
  have hFc := va_free (wc := [(x0, .inr (9, [.ref qm, .ref qt, .ref qw, .ref qc, .ref qb, .ref qg, .int 0, .int 0, .int 0, .int 0, .int 0]))]) hD hS hA [0] rfl
  have hZc := ((hZ.kept hS.2.1).narrow hFc)
  refine va_calld (va_runV (As := []) (rest := []) ⟨hx, hb, hml, hown, hts⟩ (c_X7_meanStop l hnt dC dI a0 x0 qm qt qw qc qb qg H.size ) (cwV 0 hts (goodIn_of _ (by decide +kernel)) rfl rfl rfl (by decide +kernel) ⟨Nat.le_of_ble_eq_true rfl, Nat.le_of_ble_eq_true rfl⟩) ⟨fun a U g mk q => by obtain ⟨q0, q1, qP, qK, qD, qZ⟩ := q; exact ⟨q0, q1, qP, va_K.moved (u := U) (U := U.calling g mk a) (Vm.Alike.refl U.vm) qK, qD, qZ.call⟩, va_recv hKc hPc (ci := 9) (q0 := 0) rfl rfl, fun U hU hW => ⟨rfl, by rw [hU], by rw [hU]; exact hPc, va_K.moved hW.alike hKc, hDc.weaken (fun _ _ _ _ => trivial), by rw [hU]; exact hZc.warm hW⟩⟩ rfl rfl hl.1 rfl (lv_room (Nat.le_of_ble_eq_true rfl)) dL_law_1572 ⟨Nat.le_of_ble_eq_true rfl, Nat.le_of_ble_eq_true rfl⟩) hS (fun q _ h => hFc q h) hFc (fun r_1 u t H1 locs ht hvm hw hB hz1 hk1 hS => ?_)
  obtain ⟨hP1, hK1, hD1⟩ := hB
  rw [ht] at hP1
  have hK1 := va_K.moved hvm.symm hK1
  obtain ⟨hP, hD⟩ := va_join (wr := [(qm, .inl (cM, 12, .inr (.inr (.inr (.inr (fun _ => none)))))), (qt, .inl (cT, 4, .inr (.inr (.inr (.inr (fun _ => none)))))), (m0, .inr (12, [.int 0, .ref l1, .ref l2, .int 0, .int 0, .int 0, .long 0])), (l1, .inr (1, [.int 0, .ref a0, .int 0])), (l2, .inr (1, [.int 0, .ref a0, .int 0])), (qo, .inl (cL, 1, .inr (.inl (fun _ => 0)))), (qd, .inl (cD, 1, .inr (.inr (.inr (.inl (fun _ => 0))))))]) (w1 := []) hP hD [0] [1, 2, 3, 4, 5, 6, 7] rfl rfl (by decide) (by decide) hk1 hFc hP1 hD1
  have hK := (hK.sub (tys' := [(cM, .object "Haltingale$Machine"), (cT, .object "Haltingale$Tag"), (cL, .long), (cD, .double)]) [0, 1, 2, 3] rfl).app hK1
  generalize H1 = H at hP hS ⊢
  have hP : va_P (dC, dI) vwCl [(qm, .inl (cM, 12, .inr (.inr (.inr (.inr (fun _ => none)))))), (qt, .inl (cT, 4, .inr (.inr (.inr (.inr (fun _ => none)))))), (m0, .inr (12, [.int 0, .ref l1, .ref l2, .int 0, .int 0, .int 0, .long 0])), (l1, .inr (1, [.int 0, .ref a0, .int 0])), (l2, .inr (1, [.int 0, .ref a0, .int 0])), (qo, .inl (cL, 1, .inr (.inl (fun _ => 0)))), (qd, .inl (cD, 1, .inr (.inr (.inr (.inl (fun _ => 0))))))] H := hP
  have hD : va_D A [(qm, .inl (cM, 12, .inr (.inr (.inr (.inr (fun _ => none)))))), (qt, .inl (cT, 4, .inr (.inr (.inr (.inr (fun _ => none)))))), (m0, .inr (12, [.int 0, .ref l1, .ref l2, .int 0, .int 0, .int 0, .long 0])), (l1, .inr (1, [.int 0, .ref a0, .int 0])), (l2, .inr (1, [.int 0, .ref a0, .int 0])), (qo, .inl (cL, 1, .inr (.inl (fun _ => 0)))), (qd, .inl (cD, 1, .inr (.inr (.inr (.inl (fun _ => 0))))))] := hD
  have hK : va_K (dC, dI) vwCl [(cM, .object "Haltingale$Machine"), (cT, .object "Haltingale$Tag"), (cL, .long), (cD, .double)] s := hK
  refine W.widen (k := 31) (n := 4324) (Nat.le_of_ble_eq_true rfl) (Nat.le_of_ble_eq_true rfl) ?_
  obtain rfl : r_1 = FP.dconst0 := hw
  refine lv_dstore (lv' := [(6, .double FP.dconst0), (5, .int 0), (4, .ref qd), (3, .ref qo), (2, .ref m0), (1, .ref x0), (0, .ref b)]) hx hb dL_law_1575 hl (by decide) rfl (fun ls hl => ?_)
  refine lv_aload_n hx hb dL_law_1577 rfl (lv_at hl 4 rfl) ?_
  have hPc := hP.sub (ws' := [(m0, .inr (12, [.int 0, .ref l1, .ref l2, .int 0, .int 0, .int 0, .long 0])), (l1, .inr (1, [.int 0, .ref a0, .int 0]))]) [2, 3] rfl
  have hDc := hD.sub (ws' := [(m0, .inr (12, [.int 0, .ref l1, .ref l2, .int 0, .int 0, .int 0, .long 0])), (l1, .inr (1, [.int 0, .ref a0, .int 0]))]) [2, 3] (by decide) rfl
  have hKc := hK.sub (tys' := []) [] rfl
  have hFc := va_free (wc := [(m0, .inr (12, [.int 0, .ref l1, .ref l2, .int 0, .int 0, .int 0, .long 0])), (l1, .inr (1, [.int 0, .ref a0, .int 0]))]) hD hS hA [2, 3] rfl
  have hZc := ((hZ.kept hS.2.1).narrow hFc)
  refine va_calld (va_runV (As := []) (rest := []) ⟨hx, hb, hml, hown, hts⟩ (c_X10_meanStop l hnt dC dI a0 m0 l1 l2 H.size ) (cwV 0 hts (goodIn_of _ (by decide +kernel)) rfl rfl rfl (by decide +kernel) ⟨Nat.le_of_ble_eq_true rfl, Nat.le_of_ble_eq_true rfl⟩) ⟨fun a U g mk q => by obtain ⟨q0, q1, qP, qK, qD, qZ⟩ := q; exact ⟨q0, q1, qP, va_K.moved (u := U) (U := U.calling g mk a) (Vm.Alike.refl U.vm) qK, qD, qZ.call⟩, va_recv hKc hPc (ci := 12) (q0 := 0) rfl rfl, fun U hU hW => ⟨rfl, by rw [hU], by rw [hU]; exact hPc, va_K.moved hW.alike hKc, hDc.weaken (fun _ _ _ _ => trivial), by rw [hU]; exact hZc.warm hW⟩⟩ rfl rfl hl.1 rfl (lv_room (Nat.le_of_ble_eq_true rfl)) dL_law_1578 ⟨Nat.le_of_ble_eq_true rfl, Nat.le_of_ble_eq_true rfl⟩) hS (fun q _ h => hFc q h) hFc (fun r_2 u t H1 locs ht hvm hw hB hz1 hk1 hS => ?_)
  obtain ⟨hP1, hK1, hD1⟩ := hB
  rw [ht] at hP1
  have hK1 := va_K.moved hvm.symm hK1
  obtain ⟨hP, hD⟩ := va_join (wr := [(qm, .inl (cM, 12, .inr (.inr (.inr (.inr (fun _ => none)))))), (qt, .inl (cT, 4, .inr (.inr (.inr (.inr (fun _ => none)))))), (l2, .inr (1, [.int 0, .ref a0, .int 0])), (qo, .inl (cL, 1, .inr (.inl (fun _ => 0)))), (qd, .inl (cD, 1, .inr (.inr (.inr (.inl (fun _ => 0))))))]) (w1 := [(m0, .inr (12, [.int 0, .ref l1, .ref l2, .int 0, .int 0, .int 0, .long 0]))]) hP hD [2, 3] [0, 1, 4, 5, 6] rfl rfl (by decide) (by decide) hk1 hFc hP1 hD1
  have hK := (hK.sub (tys' := [(cM, .object "Haltingale$Machine"), (cT, .object "Haltingale$Tag"), (cL, .long), (cD, .double)]) [0, 1, 2, 3] rfl).app hK1
  generalize H1 = H at hP hS ⊢
  have hP : va_P (dC, dI) vwCl [(qm, .inl (cM, 12, .inr (.inr (.inr (.inr (fun _ => none)))))), (qt, .inl (cT, 4, .inr (.inr (.inr (.inr (fun _ => none)))))), (l2, .inr (1, [.int 0, .ref a0, .int 0])), (qo, .inl (cL, 1, .inr (.inl (fun _ => 0)))), (qd, .inl (cD, 1, .inr (.inr (.inr (.inl (fun _ => 0)))))), (m0, .inr (12, [.int 0, .ref l1, .ref l2, .int 0, .int 0, .int 0, .long 0]))] H := hP
  have hD : va_D A [(qm, .inl (cM, 12, .inr (.inr (.inr (.inr (fun _ => none)))))), (qt, .inl (cT, 4, .inr (.inr (.inr (.inr (fun _ => none)))))), (l2, .inr (1, [.int 0, .ref a0, .int 0])), (qo, .inl (cL, 1, .inr (.inl (fun _ => 0)))), (qd, .inl (cD, 1, .inr (.inr (.inr (.inl (fun _ => 0)))))), (m0, .inr (12, [.int 0, .ref l1, .ref l2, .int 0, .int 0, .int 0, .long 0]))] := hD
  have hK : va_K (dC, dI) vwCl [(cM, .object "Haltingale$Machine"), (cT, .object "Haltingale$Tag"), (cL, .long), (cD, .double)] s := hK
  refine W.widen (k := 32) (n := 4328) (Nat.le_of_ble_eq_true rfl) (Nat.le_of_ble_eq_true rfl) ?_
  obtain rfl : r_2 = FP.dconst0 := hw
  refine lv_dstore (lv' := [(8, .double FP.dconst0), (6, .double FP.dconst0), (5, .int 0), (4, .ref qd), (3, .ref qo), (2, .ref m0), (1, .ref x0), (0, .ref b)]) hx hb dL_law_1581 hl (by decide) rfl (fun ls hl => ?_)
  refine lv_dload hx hb dL_law_1583 (lv_at hl 1 rfl) ?_
  refine lv_dload hx hb dL_law_1585 (lv_at hl 0 rfl) ?_
  refine lv_dcmp hx hb dL_law_1587 ?_
  refine lv_topi (fun x_3 ex_3 => ?_)
  obtain rfl : x_3 = 0 := ex_3.trans (by decide +kernel)
  refine lv_if_eq (tgt := 1609) hx hb dL_law_1588 (by decide) (fun c_4 => ?_) (fun c_4 => ?_)
  rotate_left
  · (first | exact absurd c_4 (by decide) | exact absurd (by decide) c_4)
  refine lv_goto (tgt := 1806) hx hb dL_law_1609 (by decide) ?_
  refine lv_iinc (v := 7) (lv' := [(5, .int 7), (8, .double FP.dconst0), (6, .double FP.dconst0), (4, .ref qd), (3, .ref qo), (2, .ref m0), (1, .ref x0), (0, .ref b)]) hx hb dL_law_1806 hl (k := 2) rfl (by decide) (by decide) rfl (fun ls hl => ?_)
  refine lv_goto (tgt := 28) hx hb dL_law_1809 (by decide) ?_
  refine lv_iload hx hb dL_law_28 (lv_at hl 0 rfl) ?_
  refine lv_aload_n hx hb dL_law_30 rfl (lv_at hl 7 rfl) ?_
  refine va_slen hx hb hX hbl hbA hS dL_law_31 ?_
  refine lv_topi (fun x_5 ex_5 => ?_)
  obtain rfl : x_5 = 7 := ex_5.trans (by decide)
  refine lv_bipush (v := 7) hx hb dL_law_32 (by decide) ?_
  refine lv_isub hx hb dL_law_34 ?_
  refine lv_topi (fun x_6 ex_6 => ?_)
  obtain rfl : x_6 = 0 := ex_6.trans (by decide)
  refine lv_icmp_gt (tgt := 1812) hx hb dL_law_35 (by decide) (fun c_7 => ?_) (fun c_7 => ?_)
  rotate_left
  · (first | exact absurd c_7 (by decide) | exact absurd (by decide) c_7)
  refine lv_iconst (v := 1) hx hb dL_law_1812 (by decide) ?_
  refine va_forget (fun q hq => hA2 _ (hS.2.2 q hq)) ?_
  refine W.widen (k := room_1.cells) (n := room_1.slots) (Nat.le_of_ble_eq_true rfl) (Nat.le_of_ble_eq_true rfl) ?_
  exact lw_ret0 hx hb hr hlocks dL_law_1813
