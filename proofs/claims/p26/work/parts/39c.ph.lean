set_option maxHeartbeats 4000000 in
set_option maxRecDepth 100000 in
theorem law_188 {p : Program} {l : Launch} {e : Env} {s : State} {m : MethodId} {below : List Frame} {meth : Method} {c : Code} {dC : Nat → ClassId} {dI : Nat → Nat → Nat} {cI cZ cM cT : ClassId} (hnt : l.stackTraces = false) {a0 b L hh : Nat} {xs : Nat → Int32} (hL : L ≤ 260) (C0 : lw_At p s m meth c b L xs) (hts : ∀ w ∈ zs_law, w.before #[Value.ref b] s = true) {A : Nat → Prop} (hA : ∀ q : Nat, s.heap.size ≤ q → A q) (hA2 : ∀ q : Nat, A q → s.heap.size ≤ q) (hZ : zB a0 A s s.heap) (hK : va_K (dC, dI) vwCl (zT4 cI cZ cM cT) s) {ms : List pq_M} {gv tn tb : Int} (hms : pq_mo ms) (hlen : 1 ≤ ms.length) {j : Int} (hj : 0 ≤ j ∧ j < 50) {k0 n0 : Nat} (hk0 : k0 ≤ 650 ∧ n0 ≤ 15500) (K752 : ∀ (ms : List pq_M) (gv tn tb : Int) (κ : pq_S) (k1 n1 : Nat) (H : Heap) (locs : List Loc) (ls : Array Slot), k1 ≤ k0 + 6 → n1 ≤ n0 + 40 → pq_mo ms → 1 ≤ ms.length → pq_Sok κ → va_P (dC, dI) vwCl ([] ++ (pq_WD cI cZ cM cT hh ms gv tn tb κ)) H → va_D A ([] ++ (pq_WD cI cZ cM cT hh ms gv tn tb κ)) → va_S A s.heap H locs → lv_has ls 14 [(0, .ref b), (1, .ref hh), (2, .int (zi gv)), (3, .int (zi tn)), (4, .int (zi j))] → W p l e room_1 s m #[Value.ref b] below meth c H locs k1 n1 (lw_Z below #[Value.ref b] s) (F0 m 752 ls [])) : ∀ (x9 : Int32) (w : Int) (am aw av ax : Nat) (T : pq_T) (kk ka kb : Int) (κ : pq_S) (H : Heap) (locs : List Loc) (ls : Array Slot), (0 ≤ w ∧ w < (ms.length : Int)) → ms[w.toNat]? = some (am, aw, av, ax, T, kk, ka, kb) → pq_Sok κ → va_P (dC, dI) vwCl ([] ++ (pq_WD cI cZ cM cT hh ms gv tn tb κ)) H → va_D A ([] ++ (pq_WD cI cZ cM cT hh ms gv tn tb κ)) → va_S A s.heap H locs → lv_has ls 14 [(0, .ref b), (1, .ref hh), (2, .int (zi gv)), (3, .int (zi tn)), (4, .int (zi j)), (5, .int x9), (6, .int (zi (ms.length : Int))), (7, .int (zi w)), (8, .int (zi kk)), (9, .int (zi tb))] → W p l e room_1 s m #[Value.ref b] below meth c H locs k0 n0 (lw_Z below #[Value.ref b] s) (F0 m 188 ls []) := by
  intro x9 w am aw av ax T kk ka kb κ H locs ls hw9 hμ hκ hP hD hS hl
  obtain ⟨hx, hb, hr, hml, hown, -, hX0, hbl, hlocks, hgv⟩ := id C0
  have hown : s.vm.findClass RL = some m.cls := hown
  have hX : zX A b L xs s s.heap := ⟨hX0, fun h => absurd (hA2 b h) (Nat.not_le.mpr hbl), hbl⟩
  have hR1 : 600000 ≤ room_1.cells := Nat.le_of_ble_eq_true rfl
  have hR2 : 7300000 ≤ room_1.slots := Nat.le_of_ble_eq_true rfl
  have hms12 := hms.1
  have hkr := pq_mok_k (pq_mo_at hms hμ)
  refine lv_iload hx hb dL_law_188 (lv_at hl 5 rfl) ?_
  refine lv_iconst (v := zi 3) hx hb dL_law_190 (by decide) ?_
  refine lv_ishr hx hb dL_law_191 ?_
  refine lv_iconst (v := zi 4) hx hb dL_law_192 (by decide) ?_
  have hPc := hP.sub (ws' := []) [] rfl
  have hDc := hD.sub (ws' := []) [] (by decide) rfl
  have hFc := va_free (wc := []) hD hS hA [] rfl
  refine va_calli (va_runS (As := [.int (x9 >>> ((zi 3) &&& 31)), .int (zi 4)]) (rest := []) ⟨hx, hb, hml, hown, hts⟩ (c_L_below l dC dI cI cZ cM cT H.size (x9 >>> ((zi 3) &&& 31)) 4 (by first | assumption | omega | rfl)) (va_cwS 2 hts (zz_gS (goodIn_of _ (by decide +kernel)) zg_c_L_below) rfl rfl rfl (by decide +kernel) ⟨(by first | exact Nat.le_of_ble_eq_true rfl | omega), (by first | exact Nat.le_of_ble_eq_true rfl | omega)⟩) ⟨fun a U g mk q => by obtain ⟨q0, q1, qP, qK, qD⟩ := q; exact ⟨q0, q1, qP, va_K.moved (u := U) (U := U.calling g mk a) (Vm.Alike.refl U.vm) qK, qD⟩, fun U hU hW => ⟨rfl, by rw [hU], by rw [hU]; exact hPc, va_K.moved hW.alike hK, hDc.weaken (fun _ _ _ _ => trivial)⟩⟩ rfl rfl hl.1 rfl (lv_room (by first | exact Nat.le_of_ble_eq_true rfl | omega)) dL_law_193 ⟨(by first | exact Nat.le_of_ble_eq_true rfl | omega), (by first | exact Nat.le_of_ble_eq_true rfl | omega)⟩) hS (fun q _ h => hFc q h) hFc (fun r_1 u t H1 locs ht hvm hw hB hz1 hk1 hS => ?_)
  obtain ⟨hP1, hK1, hD1⟩ := hB
  rw [ht] at hP1
  obtain ⟨hP, hD⟩ := va_joinQ (wr := []) (w1 := []) (pl := (pq_WD cI cZ cM cT hh ms gv tn tb κ)) hP hD [] [] rfl rfl (by decide) (by decide) hk1 hFc hP1 hD1
  generalize H1 = H at hP hS ⊢
  have hP : va_P (dC, dI) vwCl ([] ++ (pq_WD cI cZ cM cT hh ms gv tn tb κ)) H := hP
  have hD : va_D A ([] ++ (pq_WD cI cZ cM cT hh ms gv tn tb κ)) := hD
  refine W.widen (k := k0) (n := n0) (by first | exact Nat.le_of_ble_eq_true rfl | omega) (by first | exact Nat.le_of_ble_eq_true rfl | omega) ?_
  obtain ⟨q_2, rfl, hq_3⟩ := hw
  refine lv_istore (lv' := [(10, .int (zi q_2)), (0, .ref b), (1, .ref hh), (2, .int (zi gv)), (3, .int (zi tn)), (4, .int (zi j)), (5, .int x9), (6, .int (zi (ms.length : Int))), (7, .int (zi w)), (8, .int (zi kk)), (9, .int (zi tb))]) hx hb dL_law_196 hl (by decide) rfl (fun ls hl => ?_)
  refine lv_iload hx hb dL_law_198 (lv_at hl 0 rfl) ?_
  refine pz_if_ne (tgt := 217) hx hb (by omega) dL_law_200 (by decide) (fun c_4 => ?_) (fun c_4 => ?_)
  · refine lv_iload hx hb dL_law_217 (lv_at hl 0 rfl) ?_
    refine lv_iconst (v := zi 1) hx hb dL_law_219 (by decide) ?_
    refine pz_icmp_ne (tgt := 235) hx hb (by omega) dL_law_220 (by decide) (fun c_5 => ?_) (fun c_5 => ?_)
    · refine lv_iconst (v := zi 1) hx hb dL_law_235 (by decide) ?_
      refine lv_iload hx hb dL_law_236 (lv_at hl 6 rfl) ?_
      refine lv_iconst (v := zi 5) hx hb dL_law_238 (by decide) ?_
      refine lv_ishr hx hb dL_law_239 ?_
      refine lv_iconst (v := zi 3) hx hb dL_law_240 (by decide) ?_
      have hPc := hP.sub (ws' := []) [] rfl
      have hDc := hD.sub (ws' := []) [] (by decide) rfl
      have hFc := va_free (wc := []) hD hS hA [] rfl
      refine va_calli (va_runS (As := [.int (x9 >>> ((zi 5) &&& 31)), .int (zi 3)]) (rest := [.int (zi 1)]) ⟨hx, hb, hml, hown, hts⟩ (c_L_below l dC dI cI cZ cM cT H.size (x9 >>> ((zi 5) &&& 31)) 3 (by first | assumption | omega | rfl)) (va_cwS 2 hts (zz_gS (goodIn_of _ (by decide +kernel)) zg_c_L_below) rfl rfl rfl (by decide +kernel) ⟨(by first | exact Nat.le_of_ble_eq_true rfl | omega), (by first | exact Nat.le_of_ble_eq_true rfl | omega)⟩) ⟨fun a U g mk q => by obtain ⟨q0, q1, qP, qK, qD⟩ := q; exact ⟨q0, q1, qP, va_K.moved (u := U) (U := U.calling g mk a) (Vm.Alike.refl U.vm) qK, qD⟩, fun U hU hW => ⟨rfl, by rw [hU], by rw [hU]; exact hPc, va_K.moved hW.alike hK, hDc.weaken (fun _ _ _ _ => trivial)⟩⟩ rfl rfl hl.1 rfl (lv_room (by first | exact Nat.le_of_ble_eq_true rfl | omega)) dL_law_241 ⟨(by first | exact Nat.le_of_ble_eq_true rfl | omega), (by first | exact Nat.le_of_ble_eq_true rfl | omega)⟩) hS (fun q _ h => hFc q h) hFc (fun r_6 u t H1 locs ht hvm hw hB hz1 hk1 hS => ?_)
      obtain ⟨hP1, hK1, hD1⟩ := hB
      rw [ht] at hP1
      obtain ⟨hP, hD⟩ := va_joinQ (wr := []) (w1 := []) (pl := (pq_WD cI cZ cM cT hh ms gv tn tb κ)) hP hD [] [] rfl rfl (by decide) (by decide) hk1 hFc hP1 hD1
      generalize H1 = H at hP hS ⊢
      have hP : va_P (dC, dI) vwCl ([] ++ (pq_WD cI cZ cM cT hh ms gv tn tb κ)) H := hP
      have hD : va_D A ([] ++ (pq_WD cI cZ cM cT hh ms gv tn tb κ)) := hD
      refine W.widen (k := k0) (n := n0) (by first | exact Nat.le_of_ble_eq_true rfl | omega) (by first | exact Nat.le_of_ble_eq_true rfl | omega) ?_
      obtain ⟨q_7, rfl, hq_8⟩ := hw
      refine pz_iadd hx hb dL_law_244 ?_
      refine lv_istore (lv' := [(11, .int (zi (1 + q_7))), (10, .int (zi q_2)), (0, .ref b), (1, .ref hh), (2, .int (zi gv)), (3, .int (zi tn)), (4, .int (zi j)), (5, .int x9), (6, .int (zi (ms.length : Int))), (7, .int (zi w)), (8, .int (zi kk)), (9, .int (zi tb))]) hx hb dL_law_245 hl (by decide) rfl (fun ls hl => ?_)
      refine lv_aload_n hx hb dL_law_247 rfl (lv_at hl 3 rfl) ?_
      refine lv_iload hx hb dL_law_248 (lv_at hl 9 rfl) ?_
      refine lv_iload hx hb dL_law_250 (lv_at hl 1 rfl) ?_
      refine lv_iload hx hb dL_law_252 (lv_at hl 0 rfl) ?_
      refine lv_iload hx hb dL_law_254 (lv_at hl 1 rfl) ?_
      refine lv_iconst (v := zi 1) hx hb dL_law_256 (by decide) ?_
      refine pz_icmp_ne (tgt := 275) hx hb (by omega) dL_law_257 (by decide) (fun c_9 => ?_) (fun c_9 => ?_)
      · refine lv_iconst (v := zi 0) hx hb dL_law_275 (by decide) ?_
        by_cases hkm : kk = -1
        · have hμ1 : ms[w.toNat]? = some (am, aw, av, ax, T, -1, ka, kb) := by rw [hμ, hkm]
          have hPc := hP.part (cx := []) [] rfl
          have hDc := hD.part (cx := []) [] (by decide) rfl
          have hFc := va_freeP (cx := []) hD hS hA [] rfl
          refine va_calli (vx_runSW (As := [.ref hh, .int (zi w), .int (zi q_2), .int (zi (1 + q_7)), .int (zi 0)]) (rest := []) ⟨hx, hb, hml, hown, hts⟩ (c_L_prove l dC dI cI cZ cM cT H.size hh ms gv tn tb κ w am aw av ax T ka kb q_2 (1 + q_7) 0 (by first | assumption | omega | rfl) hκ (by first | assumption | omega | rfl) hμ1 (by unfold pq_ic; omega)) (vx_cwSW 5 hts (zz_gS (goodIn_of _ (by decide +kernel)) zg_c_L_prove) rfl rfl rfl (by decide +kernel) ⟨(by first | exact Nat.le_of_ble_eq_true rfl | omega), (by first | exact Nat.le_of_ble_eq_true rfl | omega)⟩) ⟨fun a U g mk q => by obtain ⟨q0, q1, qP, qK, qD⟩ := q; exact ⟨q0, q1, qP, va_K.moved (u := U) (U := U.calling g mk a) (Vm.Alike.refl U.vm) qK, qD⟩, fun U hU hW => ⟨rfl, by rw [hU], by rw [hU]; exact hPc, va_K.moved hW.alike hK, hDc.weaken (fun _ _ _ _ => trivial)⟩⟩ rfl rfl hl.1 rfl (lv_room (by first | exact Nat.le_of_ble_eq_true rfl | omega)) dL_law_276 ⟨(by first | exact Nat.le_of_ble_eq_true rfl | omega), (by first | exact Nat.le_of_ble_eq_true rfl | omega)⟩) hS (fun q _ h => hFc q h) hFc (fun r_10 u t H1 locs ht hvm hw hB hz1 hk1 hS => ?_)
          obtain ⟨κ1_11, ms1_12, tn1_13, hz_14, hm_15, hP1, hK1, hD1⟩ := hB
          rw [ht] at hP1
          obtain ⟨hP, hD⟩ := va_joinP (wr := []) (rx := []) (pl1 := (pq_WD cI cZ cM cT hh ms1_12 (gv + 1) tn1_13 tb κ1_11)) hP hD [] [] rfl rfl (by decide) (by decide) hk1 hFc hP1 hD1
          generalize H1 = H at hP hS ⊢
          have hP : va_P (dC, dI) vwCl ([] ++ (pq_WD cI cZ cM cT hh ms1_12 (gv + 1) tn1_13 tb κ1_11)) H := hP
          have hD : va_D A ([] ++ (pq_WD cI cZ cM cT hh ms1_12 (gv + 1) tn1_13 tb κ1_11)) := hD
          refine W.widen (k := k0) (n := n0) (by first | exact Nat.le_of_ble_eq_true rfl | omega) (by first | exact Nat.le_of_ble_eq_true rfl | omega) ?_
          obtain rfl : r_10 = zi (pb (pq_cert T q_2 (1 + q_7) (0 : Int))) := hw
          by_cases hcq : pq_cert T q_2 (1 + q_7) 0
          · have hm1 := hm_15.1 hcq
            have hμ2 : ms1_12[w.toNat]? = some (am, aw, av, ax, T, q_2, 1 + q_7, 0) := by rw [hm1.1, List.getElem?_set_self (by omega)]
            have hms1 : pq_mo ms1_12 := by rw [hm1.1]; exact pq_mo_set hms ⟨(pq_mo_at hms hμ).1, Or.inr hcq⟩
            have hlen1 : 1 ≤ ms1_12.length := by rw [hm1.1, List.length_set]; exact hlen
            refine pz_top (y := zi 1) (congrArg zi (pb_t hcq)) ?_
            refine lv_istore (lv' := [(12, .int (zi 1)), (11, .int (zi (1 + q_7))), (10, .int (zi q_2)), (0, .ref b), (1, .ref hh), (2, .int (zi gv)), (3, .int (zi tn)), (4, .int (zi j)), (5, .int x9), (6, .int (zi (ms.length : Int))), (7, .int (zi w)), (8, .int (zi kk)), (9, .int (zi tb))]) hx hb dL_law_279 hl (by decide) rfl (fun ls hl => ?_)
            refine lv_iload hx hb dL_law_281 (lv_at hl 0 rfl) ?_
            refine pz_if_ge (tgt := 290) hx hb (by omega) dL_law_283 (by decide) (fun c_16 => ?_) (fun c_16 => ?_)
            · refine lv_iconst (v := zi 0) hx hb dL_law_290 (by decide) ?_
              refine lv_iload hx hb dL_law_291 (lv_at hl 11 rfl) ?_
              refine pz_if_lt (tgt := 300) hx hb (by omega) dL_law_293 (by decide) (fun c_17 => ?_) (fun c_17 => ?_)
              · refine lv_iconst (v := zi 0) hx hb dL_law_300 (by decide) ?_
                refine lv_icmp_ne (tgt := 350) hx hb dL_law_301 (by decide) (fun h => absurd (congrArg zi (show (0 : Int) = (0 : Int) from rfl)) h) (fun _ => ?_)
                refine lv_iload hx hb dL_law_304 (lv_at hl 0 rfl) ?_
                refine lv_iconst (v := zi 1) hx hb dL_law_306 (by decide) ?_
                refine pz_icmp_ne (tgt := 334) hx hb (by omega) dL_law_307 (by decide) (fun c_18 => ?_) (fun c_18 => ?_)
                · exact absurd c_18 (by omega)
                · refine lv_aload_n hx hb dL_law_310 rfl (lv_at hl 4 rfl) ?_
                  refine lv_iload hx hb dL_law_311 (lv_at hl 10 rfl) ?_
                  refine lv_iconst (v := zi 2) hx hb dL_law_313 (by decide) ?_
                  have hPc := hP.part (cx := []) [] rfl
                  have hDc := hD.part (cx := []) [] (by decide) rfl
                  have hFc := va_freeP (cx := []) hD hS hA [] rfl
                  refine va_calli (va_runV (As := [.int (zi w), .int (zi 2)]) (rest := []) ⟨hx, hb, hml, hown, hts⟩ (c_X7_ofMachine l dC dI cI cZ cM cT H.size hh ms1_12 (gv + 1) tn1_13 tb κ1_11 w am aw av ax T q_2 (1 + q_7) 0 2 hms1 hz_14 (by first | assumption | omega | rfl) hμ2 (by first | assumption | omega | rfl)) (cwV 2 hts (zz_gV (goodIn_of _ (by decide +kernel)) zg_c_X7_ofMachine) rfl rfl rfl (by decide +kernel) ⟨(by first | exact Nat.le_of_ble_eq_true rfl | omega), (by first | exact Nat.le_of_ble_eq_true rfl | omega)⟩) ⟨fun a U g mk q => by obtain ⟨q0, q1, qP, qK, qD⟩ := q; exact ⟨q0, q1, qP, va_K.moved (u := U) (U := U.calling g mk a) (Vm.Alike.refl U.vm) qK, qD⟩, va_recv hK hPc (ci := 6) (q0 := 0) rfl rfl, fun U hU hW => ⟨rfl, by rw [hU], by rw [hU]; exact hPc, va_K.moved hW.alike hK, hDc.weaken (fun _ _ _ _ => trivial)⟩⟩ rfl rfl hl.1 rfl (lv_room (by first | exact Nat.le_of_ble_eq_true rfl | omega)) dL_law_314 ⟨(by first | exact Nat.le_of_ble_eq_true rfl | omega), (by first | exact Nat.le_of_ble_eq_true rfl | omega)⟩) hS (fun q _ h => hFc q h) hFc (fun r_19 u t H1 locs ht hvm hw hB hz1 hk1 hS => ?_)
                  obtain ⟨κ1_20, hz_21, hP1, hK1, hD1⟩ := hB
                  rw [ht] at hP1
                  obtain ⟨hP, hD⟩ := va_joinP (wr := []) (rx := []) (pl1 := (pq_WD cI cZ cM cT hh ms1_12 (gv + 1) tn1_13 tb κ1_20)) hP hD [] [] rfl rfl (by decide) (by decide) hk1 hFc hP1 hD1
                  generalize H1 = H at hP hS ⊢
                  have hP : va_P (dC, dI) vwCl ([] ++ (pq_WD cI cZ cM cT hh ms1_12 (gv + 1) tn1_13 tb κ1_20)) H := hP
                  have hD : va_D A ([] ++ (pq_WD cI cZ cM cT hh ms1_12 (gv + 1) tn1_13 tb κ1_20)) := hD
                  refine W.widen (k := k0) (n := n0) (by first | exact Nat.le_of_ble_eq_true rfl | omega) (by first | exact Nat.le_of_ble_eq_true rfl | omega) ?_
                  obtain rfl : r_19 = zi (pq_om T q_2 (1 + q_7) (0 : Int) (2 : Int)) := hw
                  refine pz_top (y := zi q_2) (congrArg zi (rfl)) ?_
                  refine lv_iload hx hb dL_law_317 (lv_at hl 2 rfl) ?_
                  refine lv_icmp_ne (tgt := 350) hx hb dL_law_319 (by decide) (fun h => absurd (congrArg zi (show q_2 = q_2 from rfl)) h) (fun _ => ?_)
                  refine lv_aload_n hx hb dL_law_322 rfl (lv_at hl 4 rfl) ?_
                  refine lv_iload hx hb dL_law_323 (lv_at hl 10 rfl) ?_
                  refine lv_iconst (v := zi 3) hx hb dL_law_325 (by decide) ?_
                  have hPc := hP.part (cx := []) [] rfl
                  have hDc := hD.part (cx := []) [] (by decide) rfl
                  have hFc := va_freeP (cx := []) hD hS hA [] rfl
                  refine va_calli (va_runV (As := [.int (zi w), .int (zi 3)]) (rest := []) ⟨hx, hb, hml, hown, hts⟩ (c_X7_ofMachine l dC dI cI cZ cM cT H.size hh ms1_12 (gv + 1) tn1_13 tb κ1_20 w am aw av ax T q_2 (1 + q_7) 0 3 hms1 hz_21 (by first | assumption | omega | rfl) hμ2 (by first | assumption | omega | rfl)) (cwV 2 hts (zz_gV (goodIn_of _ (by decide +kernel)) zg_c_X7_ofMachine) rfl rfl rfl (by decide +kernel) ⟨(by first | exact Nat.le_of_ble_eq_true rfl | omega), (by first | exact Nat.le_of_ble_eq_true rfl | omega)⟩) ⟨fun a U g mk q => by obtain ⟨q0, q1, qP, qK, qD⟩ := q; exact ⟨q0, q1, qP, va_K.moved (u := U) (U := U.calling g mk a) (Vm.Alike.refl U.vm) qK, qD⟩, va_recv hK hPc (ci := 6) (q0 := 0) rfl rfl, fun U hU hW => ⟨rfl, by rw [hU], by rw [hU]; exact hPc, va_K.moved hW.alike hK, hDc.weaken (fun _ _ _ _ => trivial)⟩⟩ rfl rfl hl.1 rfl (lv_room (by first | exact Nat.le_of_ble_eq_true rfl | omega)) dL_law_326 ⟨(by first | exact Nat.le_of_ble_eq_true rfl | omega), (by first | exact Nat.le_of_ble_eq_true rfl | omega)⟩) hS (fun q _ h => hFc q h) hFc (fun r_22 u t H1 locs ht hvm hw hB hz1 hk1 hS => ?_)
                  obtain ⟨κ1_23, hz_24, hP1, hK1, hD1⟩ := hB
                  rw [ht] at hP1
                  obtain ⟨hP, hD⟩ := va_joinP (wr := []) (rx := []) (pl1 := (pq_WD cI cZ cM cT hh ms1_12 (gv + 1) tn1_13 tb κ1_23)) hP hD [] [] rfl rfl (by decide) (by decide) hk1 hFc hP1 hD1
                  generalize H1 = H at hP hS ⊢
                  have hP : va_P (dC, dI) vwCl ([] ++ (pq_WD cI cZ cM cT hh ms1_12 (gv + 1) tn1_13 tb κ1_23)) H := hP
                  have hD : va_D A ([] ++ (pq_WD cI cZ cM cT hh ms1_12 (gv + 1) tn1_13 tb κ1_23)) := hD
                  refine W.widen (k := k0) (n := n0) (by first | exact Nat.le_of_ble_eq_true rfl | omega) (by first | exact Nat.le_of_ble_eq_true rfl | omega) ?_
                  obtain rfl : r_22 = zi (pq_om T q_2 (1 + q_7) (0 : Int) (3 : Int)) := hw
                  refine pz_top (y := zi (1 + q_7)) (congrArg zi (rfl)) ?_
                  refine lv_iload hx hb dL_law_329 (lv_at hl 1 rfl) ?_
                  refine lv_icmp_ne (tgt := 350) hx hb dL_law_331 (by decide) (fun h => absurd (congrArg zi (show 1 + q_7 = 1 + q_7 from rfl)) h) (fun _ => ?_)
                  refine lv_iload hx hb dL_law_334 (lv_at hl 0 rfl) ?_
                  refine pz_if_ne (tgt := 352) hx hb (by omega) dL_law_336 (by decide) (fun c_25 => ?_) (fun c_25 => ?_)
                  · refine lv_iload_n hx hb dL_law_352 rfl (lv_at hl 5 rfl) ?_
                    refine lv_iload hx hb dL_law_353 (lv_at hl 0 rfl) ?_
                    refine pz_if_ge (tgt := 362) hx hb (by omega) dL_law_355 (by decide) (fun c_26 => ?_) (fun c_26 => ?_)
                    · refine lv_iconst (v := zi 1) hx hb dL_law_362 (by decide) ?_
                      refine pz_iadd hx hb dL_law_363 ?_
                      refine pz_top (y := (zi (gv + 1))) (rfl) ?_
                      refine lv_istore_n (lv' := [(2, .int (zi (gv + 1))), (12, .int (zi 1)), (11, .int (zi (1 + q_7))), (10, .int (zi q_2)), (0, .ref b), (1, .ref hh), (3, .int (zi tn)), (4, .int (zi j)), (5, .int x9), (6, .int (zi (ms.length : Int))), (7, .int (zi w)), (8, .int (zi kk)), (9, .int (zi tb))]) hx hb dL_law_364 rfl hl (by decide) rfl (fun ls hl => ?_)
                      refine lv_iload_n hx hb dL_law_365 rfl (lv_at hl 6 rfl) ?_
                      refine lv_iload hx hb dL_law_366 (lv_at hl 1 rfl) ?_
                      refine lv_iconst (v := zi 1) hx hb dL_law_368 (by decide) ?_
                      refine pz_icmp_ne (tgt := 376) hx hb (by omega) dL_law_369 (by decide) (fun c_27 => ?_) (fun c_27 => ?_)
                      · exact absurd c_27 (by omega)
                      · refine lv_iconst (v := zi 1) hx hb dL_law_372 (by decide) ?_
                        refine lv_goto (tgt := 377) hx hb dL_law_373 (by decide) ?_
                        refine pz_iadd hx hb dL_law_377 ?_
                        refine pz_top (y := (zi tn1_13)) (congrArg zi (by rw [hm1.2])) ?_
                        refine lv_istore_n (lv' := [(3, .int (zi tn1_13)), (2, .int (zi (gv + 1))), (12, .int (zi 1)), (11, .int (zi (1 + q_7))), (10, .int (zi q_2)), (0, .ref b), (1, .ref hh), (4, .int (zi j)), (5, .int x9), (6, .int (zi (ms.length : Int))), (7, .int (zi w)), (8, .int (zi kk)), (9, .int (zi tb))]) hx hb dL_law_378 rfl hl (by decide) rfl (fun ls hl => ?_)
                        refine lv_goto (tgt := 752) hx hb dL_law_379 (by decide) ?_
                        exact K752 _ _ _ _ _ _ _ _ _ _ (by omega) (by omega) hms1 hlen1 hz_24 hP hD hS (lv_sub hl [5, 6, 1, 0, 7] rfl)
                    · exact absurd c_26 (by omega)
                  · exact absurd c_25 (by omega)
              · exact (show False by omega).elim
            · exact absurd c_16 (by omega)
          · have hm1 := hm_15.2 hcq
            have hμ2 : ms1_12[w.toNat]? = some (am, aw, av, ax, T, -1, ka, kb) := by rw [hm1.1]; exact hμ1
            have hms1 : pq_mo ms1_12 := by rw [hm1.1]; exact hms
            have hlen1 : 1 ≤ ms1_12.length := by rw [hm1.1]; exact hlen
            refine pz_top (y := zi 0) (congrArg zi (pb_f hcq)) ?_
            refine lv_istore (lv' := [(12, .int (zi 0)), (11, .int (zi (1 + q_7))), (10, .int (zi q_2)), (0, .ref b), (1, .ref hh), (2, .int (zi gv)), (3, .int (zi tn)), (4, .int (zi j)), (5, .int x9), (6, .int (zi (ms.length : Int))), (7, .int (zi w)), (8, .int (zi kk)), (9, .int (zi tb))]) hx hb dL_law_279 hl (by decide) rfl (fun ls hl => ?_)
            refine lv_iload hx hb dL_law_281 (lv_at hl 0 rfl) ?_
            refine pz_if_ge (tgt := 290) hx hb (by omega) dL_law_283 (by decide) (fun c_28 => ?_) (fun c_28 => ?_)
            · refine lv_iconst (v := zi 0) hx hb dL_law_290 (by decide) ?_
              refine lv_iload hx hb dL_law_291 (lv_at hl 11 rfl) ?_
              refine pz_if_lt (tgt := 300) hx hb (by omega) dL_law_293 (by decide) (fun c_29 => ?_) (fun c_29 => ?_)
              · refine lv_iconst (v := zi 0) hx hb dL_law_300 (by decide) ?_
                refine lv_icmp_ne (tgt := 350) hx hb dL_law_301 (by decide) (fun h => absurd (congrArg zi (show (0 : Int) = (0 : Int) from rfl)) h) (fun _ => ?_)
                refine lv_iload hx hb dL_law_304 (lv_at hl 0 rfl) ?_
                refine lv_iconst (v := zi 1) hx hb dL_law_306 (by decide) ?_
                refine pz_icmp_ne (tgt := 334) hx hb (by omega) dL_law_307 (by decide) (fun c_30 => ?_) (fun c_30 => ?_)
                · refine lv_iload hx hb dL_law_334 (lv_at hl 0 rfl) ?_
                  refine pz_if_ne (tgt := 352) hx hb (by omega) dL_law_336 (by decide) (fun c_31 => ?_) (fun c_31 => ?_)
                  · exact absurd c_31 (by omega)
                  · refine lv_aload_n hx hb dL_law_339 rfl (lv_at hl 4 rfl) ?_
                    refine lv_iload hx hb dL_law_340 (lv_at hl 10 rfl) ?_
                    refine lv_iconst (v := zi 2) hx hb dL_law_342 (by decide) ?_
                    have hPc := hP.part (cx := []) [] rfl
                    have hDc := hD.part (cx := []) [] (by decide) rfl
                    have hFc := va_freeP (cx := []) hD hS hA [] rfl
                    refine va_calli (va_runV (As := [.int (zi w), .int (zi 2)]) (rest := []) ⟨hx, hb, hml, hown, hts⟩ (c_X7_ofMachine l dC dI cI cZ cM cT H.size hh ms1_12 (gv + 1) tn1_13 tb κ1_11 w am aw av ax T (-1) ka kb 2 hms1 hz_14 (by first | assumption | omega | rfl) hμ2 (by first | assumption | omega | rfl)) (cwV 2 hts (zz_gV (goodIn_of _ (by decide +kernel)) zg_c_X7_ofMachine) rfl rfl rfl (by decide +kernel) ⟨(by first | exact Nat.le_of_ble_eq_true rfl | omega), (by first | exact Nat.le_of_ble_eq_true rfl | omega)⟩) ⟨fun a U g mk q => by obtain ⟨q0, q1, qP, qK, qD⟩ := q; exact ⟨q0, q1, qP, va_K.moved (u := U) (U := U.calling g mk a) (Vm.Alike.refl U.vm) qK, qD⟩, va_recv hK hPc (ci := 6) (q0 := 0) rfl rfl, fun U hU hW => ⟨rfl, by rw [hU], by rw [hU]; exact hPc, va_K.moved hW.alike hK, hDc.weaken (fun _ _ _ _ => trivial)⟩⟩ rfl rfl hl.1 rfl (lv_room (by first | exact Nat.le_of_ble_eq_true rfl | omega)) dL_law_343 ⟨(by first | exact Nat.le_of_ble_eq_true rfl | omega), (by first | exact Nat.le_of_ble_eq_true rfl | omega)⟩) hS (fun q _ h => hFc q h) hFc (fun r_32 u t H1 locs ht hvm hw hB hz1 hk1 hS => ?_)
                    obtain ⟨κ1_33, hz_34, hP1, hK1, hD1⟩ := hB
                    rw [ht] at hP1
                    obtain ⟨hP, hD⟩ := va_joinP (wr := []) (rx := []) (pl1 := (pq_WD cI cZ cM cT hh ms1_12 (gv + 1) tn1_13 tb κ1_33)) hP hD [] [] rfl rfl (by decide) (by decide) hk1 hFc hP1 hD1
                    generalize H1 = H at hP hS ⊢
                    have hP : va_P (dC, dI) vwCl ([] ++ (pq_WD cI cZ cM cT hh ms1_12 (gv + 1) tn1_13 tb κ1_33)) H := hP
                    have hD : va_D A ([] ++ (pq_WD cI cZ cM cT hh ms1_12 (gv + 1) tn1_13 tb κ1_33)) := hD
                    refine W.widen (k := k0) (n := n0) (by first | exact Nat.le_of_ble_eq_true rfl | omega) (by first | exact Nat.le_of_ble_eq_true rfl | omega) ?_
                    obtain rfl : r_32 = zi (pq_om T (-1) ka kb (2 : Int)) := hw
                    refine pz_top (y := zi (-1)) (congrArg zi (rfl)) ?_
                    refine lv_iconst (v := zi (-1)) hx hb dL_law_346 (by decide) ?_
                    refine lv_icmp_eq (tgt := 352) hx hb dL_law_347 (by decide) (fun _ => ?_) (fun h => absurd (congrArg zi (show (-1 : Int) = (-1 : Int) from rfl)) h)
                    refine lv_iload_n hx hb dL_law_352 rfl (lv_at hl 5 rfl) ?_
                    refine lv_iload hx hb dL_law_353 (lv_at hl 0 rfl) ?_
                    refine pz_if_ge (tgt := 362) hx hb (by omega) dL_law_355 (by decide) (fun c_35 => ?_) (fun c_35 => ?_)
                    · refine lv_iconst (v := zi 1) hx hb dL_law_362 (by decide) ?_
                      refine pz_iadd hx hb dL_law_363 ?_
                      refine pz_top (y := (zi (gv + 1))) (rfl) ?_
                      refine lv_istore_n (lv' := [(2, .int (zi (gv + 1))), (12, .int (zi 0)), (11, .int (zi (1 + q_7))), (10, .int (zi q_2)), (0, .ref b), (1, .ref hh), (3, .int (zi tn)), (4, .int (zi j)), (5, .int x9), (6, .int (zi (ms.length : Int))), (7, .int (zi w)), (8, .int (zi kk)), (9, .int (zi tb))]) hx hb dL_law_364 rfl hl (by decide) rfl (fun ls hl => ?_)
                      refine lv_iload_n hx hb dL_law_365 rfl (lv_at hl 6 rfl) ?_
                      refine lv_iload hx hb dL_law_366 (lv_at hl 1 rfl) ?_
                      refine lv_iconst (v := zi 1) hx hb dL_law_368 (by decide) ?_
                      refine pz_icmp_ne (tgt := 376) hx hb (by omega) dL_law_369 (by decide) (fun c_36 => ?_) (fun c_36 => ?_)
                      · refine lv_iconst (v := zi 0) hx hb dL_law_376 (by decide) ?_
                        refine pz_iadd hx hb dL_law_377 ?_
                        refine pz_top (y := (zi tn1_13)) (congrArg zi (by rw [hm1.2]; exact Int.add_zero _)) ?_
                        refine lv_istore_n (lv' := [(3, .int (zi tn1_13)), (2, .int (zi (gv + 1))), (12, .int (zi 0)), (11, .int (zi (1 + q_7))), (10, .int (zi q_2)), (0, .ref b), (1, .ref hh), (4, .int (zi j)), (5, .int x9), (6, .int (zi (ms.length : Int))), (7, .int (zi w)), (8, .int (zi kk)), (9, .int (zi tb))]) hx hb dL_law_378 rfl hl (by decide) rfl (fun ls hl => ?_)
                        refine lv_goto (tgt := 752) hx hb dL_law_379 (by decide) ?_
                        exact K752 _ _ _ _ _ _ _ _ _ _ (by omega) (by omega) hms1 hlen1 hz_34 hP hD hS (lv_sub hl [5, 6, 1, 0, 7] rfl)
                      · exact absurd c_36 (by omega)
                    · exact absurd c_35 (by omega)
                · exact absurd c_30 (by omega)
              · exact (show False by omega).elim
            · exact absurd c_28 (by omega)
        · have hPc := hP.part (cx := []) [] rfl
          have hDc := hD.part (cx := []) [] (by decide) rfl
          have hFc := va_freeP (cx := []) hD hS hA [] rfl
          have hZc := ((hZ.kept hS.2.1).narrow hFc)
          refine va_calli (vx_runSW (As := [.ref hh, .int (zi w), .int (zi q_2), .int (zi (1 + q_7)), .int (zi 0)]) (rest := []) ⟨hx, hb, hml, hown, hts⟩ (c_L_proveX l dC dI cI cZ cM cT hnt a0 H.size hh ms gv tn tb κ w am aw av ax T kk ka kb q_2 (1 + q_7) 0 (by first | assumption | omega | rfl) hκ (by first | assumption | omega | rfl) hμ (by first | assumption | omega | rfl) (by unfold pq_ic; omega)) (vx_cwSW 5 hts (zz_gS (goodIn_of _ (by decide +kernel)) zg_c_L_proveX) rfl rfl rfl (by decide +kernel) ⟨(by first | exact Nat.le_of_ble_eq_true rfl | omega), (by first | exact Nat.le_of_ble_eq_true rfl | omega)⟩) ⟨fun a U g mk q => by obtain ⟨q0, q1, qP, qK, qD, qZ⟩ := q; exact ⟨q0, q1, qP, va_K.moved (u := U) (U := U.calling g mk a) (Vm.Alike.refl U.vm) qK, qD, qZ.call⟩, fun U hU hW => ⟨rfl, by rw [hU], by rw [hU]; exact hPc, va_K.moved hW.alike hK, hDc.weaken (fun _ _ _ _ => trivial), by rw [hU]; exact hZc.warm hW⟩⟩ rfl rfl hl.1 rfl (lv_room (by first | exact Nat.le_of_ble_eq_true rfl | omega)) dL_law_276 ⟨(by first | exact Nat.le_of_ble_eq_true rfl | omega), (by first | exact Nat.le_of_ble_eq_true rfl | omega)⟩) hS (fun q _ h => hFc q h) hFc (fun r_37 u t H1 locs ht hvm hw hB hz1 hk1 hS => ?_)
          obtain ⟨hP1, hK1, hD1⟩ := hB
          rw [ht] at hP1
          obtain ⟨hP, hD⟩ := va_joinP (wr := []) (rx := []) (pl1 := (pq_WD cI cZ cM cT hh ms gv tn tb κ)) hP hD [] [] rfl rfl (by decide) (by decide) hk1 hFc hP1 hD1
          generalize H1 = H at hP hS ⊢
          have hP : va_P (dC, dI) vwCl ([] ++ (pq_WD cI cZ cM cT hh ms gv tn tb κ)) H := hP
          have hD : va_D A ([] ++ (pq_WD cI cZ cM cT hh ms gv tn tb κ)) := hD
          refine W.widen (k := (k0 + 1)) (n := (n0 + 6)) (by first | exact Nat.le_of_ble_eq_true rfl | omega) (by first | exact Nat.le_of_ble_eq_true rfl | omega) ?_
          obtain rfl : r_37 = zi (-1) := hw
          refine lv_istore (lv' := [(12, .int (zi (-1))), (11, .int (zi (1 + q_7))), (10, .int (zi q_2)), (0, .ref b), (1, .ref hh), (2, .int (zi gv)), (3, .int (zi tn)), (4, .int (zi j)), (5, .int x9), (6, .int (zi (ms.length : Int))), (7, .int (zi w)), (8, .int (zi kk)), (9, .int (zi tb))]) hx hb dL_law_279 hl (by decide) rfl (fun ls hl => ?_)
          refine lv_iload hx hb dL_law_281 (lv_at hl 0 rfl) ?_
          refine pz_if_ge (tgt := 290) hx hb (by omega) dL_law_283 (by decide) (fun c_38 => ?_) (fun c_38 => ?_)
          · exact absurd c_38 (by omega)
          · refine lv_iconst (v := zi 1) hx hb dL_law_286 (by decide) ?_
            refine lv_goto (tgt := 291) hx hb dL_law_287 (by decide) ?_
            refine lv_iload hx hb dL_law_291 (lv_at hl 11 rfl) ?_
            refine pz_if_lt (tgt := 300) hx hb (by omega) dL_law_293 (by decide) (fun c_39 => ?_) (fun c_39 => ?_)
            · exact (show False by omega).elim
            · refine lv_iconst (v := zi 1) hx hb dL_law_296 (by decide) ?_
              refine lv_goto (tgt := 301) hx hb dL_law_297 (by decide) ?_
              refine lv_icmp_ne (tgt := 350) hx hb dL_law_301 (by decide) (fun h => absurd (congrArg zi (show (1 : Int) = (1 : Int) from rfl)) h) (fun _ => ?_)
              refine lv_iload hx hb dL_law_304 (lv_at hl 0 rfl) ?_
              refine lv_iconst (v := zi 1) hx hb dL_law_306 (by decide) ?_
              refine pz_icmp_ne (tgt := 334) hx hb (by omega) dL_law_307 (by decide) (fun c_40 => ?_) (fun c_40 => ?_)
              · refine lv_iload hx hb dL_law_334 (lv_at hl 0 rfl) ?_
                refine pz_if_ne (tgt := 352) hx hb (by omega) dL_law_336 (by decide) (fun c_41 => ?_) (fun c_41 => ?_)
                · refine lv_iload_n hx hb dL_law_352 rfl (lv_at hl 5 rfl) ?_
                  refine lv_iload hx hb dL_law_353 (lv_at hl 0 rfl) ?_
                  refine pz_if_ge (tgt := 362) hx hb (by omega) dL_law_355 (by decide) (fun c_42 => ?_) (fun c_42 => ?_)
                  · exact absurd c_42 (by omega)
                  · refine lv_iconst (v := zi 0) hx hb dL_law_358 (by decide) ?_
                    refine lv_goto (tgt := 363) hx hb dL_law_359 (by decide) ?_
                    refine pz_iadd hx hb dL_law_363 ?_
                    refine pz_top (y := (zi gv)) (congrArg zi (Int.add_zero _)) ?_
                    refine lv_istore_n (lv' := [(2, .int (zi gv)), (12, .int (zi (-1))), (11, .int (zi (1 + q_7))), (10, .int (zi q_2)), (0, .ref b), (1, .ref hh), (3, .int (zi tn)), (4, .int (zi j)), (5, .int x9), (6, .int (zi (ms.length : Int))), (7, .int (zi w)), (8, .int (zi kk)), (9, .int (zi tb))]) hx hb dL_law_364 rfl hl (by decide) rfl (fun ls hl => ?_)
                    refine lv_iload_n hx hb dL_law_365 rfl (lv_at hl 6 rfl) ?_
                    refine lv_iload hx hb dL_law_366 (lv_at hl 1 rfl) ?_
                    refine lv_iconst (v := zi 1) hx hb dL_law_368 (by decide) ?_
                    refine pz_icmp_ne (tgt := 376) hx hb (by omega) dL_law_369 (by decide) (fun c_43 => ?_) (fun c_43 => ?_)
                    · refine lv_iconst (v := zi 0) hx hb dL_law_376 (by decide) ?_
                      refine pz_iadd hx hb dL_law_377 ?_
                      refine pz_top (y := (zi tn)) (congrArg zi (Int.add_zero _)) ?_
                      refine lv_istore_n (lv' := [(3, .int (zi tn)), (2, .int (zi gv)), (12, .int (zi (-1))), (11, .int (zi (1 + q_7))), (10, .int (zi q_2)), (0, .ref b), (1, .ref hh), (4, .int (zi j)), (5, .int x9), (6, .int (zi (ms.length : Int))), (7, .int (zi w)), (8, .int (zi kk)), (9, .int (zi tb))]) hx hb dL_law_378 rfl hl (by decide) rfl (fun ls hl => ?_)
                      refine lv_goto (tgt := 752) hx hb dL_law_379 (by decide) ?_
                      exact K752 _ _ _ _ _ _ _ _ _ _ (by omega) (by omega) hms hlen hκ hP hD hS (lv_sub hl [5, 6, 1, 0, 7] rfl)
                    · exact absurd c_43 (by omega)
                · exact absurd c_41 (by omega)
              · exact absurd c_40 (by omega)
      · exact (show False by omega).elim
    · refine lv_iload hx hb dL_law_223 (lv_at hl 6 rfl) ?_
      refine lv_iconst (v := zi 5) hx hb dL_law_225 (by decide) ?_
      refine lv_ishr hx hb dL_law_226 ?_
      refine lv_bipush (v := zi 10) hx hb dL_law_227 (by decide) ?_
      have hPc := hP.sub (ws' := []) [] rfl
      have hDc := hD.sub (ws' := []) [] (by decide) rfl
      have hFc := va_free (wc := []) hD hS hA [] rfl
      refine va_calli (va_runS (As := [.int (x9 >>> ((zi 5) &&& 31)), .int (zi 10)]) (rest := []) ⟨hx, hb, hml, hown, hts⟩ (c_L_below l dC dI cI cZ cM cT H.size (x9 >>> ((zi 5) &&& 31)) 10 (by first | assumption | omega | rfl)) (va_cwS 2 hts (zz_gS (goodIn_of _ (by decide +kernel)) zg_c_L_below) rfl rfl rfl (by decide +kernel) ⟨(by first | exact Nat.le_of_ble_eq_true rfl | omega), (by first | exact Nat.le_of_ble_eq_true rfl | omega)⟩) ⟨fun a U g mk q => by obtain ⟨q0, q1, qP, qK, qD⟩ := q; exact ⟨q0, q1, qP, va_K.moved (u := U) (U := U.calling g mk a) (Vm.Alike.refl U.vm) qK, qD⟩, fun U hU hW => ⟨rfl, by rw [hU], by rw [hU]; exact hPc, va_K.moved hW.alike hK, hDc.weaken (fun _ _ _ _ => trivial)⟩⟩ rfl rfl hl.1 rfl (lv_room (by first | exact Nat.le_of_ble_eq_true rfl | omega)) dL_law_229 ⟨(by first | exact Nat.le_of_ble_eq_true rfl | omega), (by first | exact Nat.le_of_ble_eq_true rfl | omega)⟩) hS (fun q _ h => hFc q h) hFc (fun r_44 u t H1 locs ht hvm hw hB hz1 hk1 hS => ?_)
      obtain ⟨hP1, hK1, hD1⟩ := hB
      rw [ht] at hP1
      obtain ⟨hP, hD⟩ := va_joinQ (wr := []) (w1 := []) (pl := (pq_WD cI cZ cM cT hh ms gv tn tb κ)) hP hD [] [] rfl rfl (by decide) (by decide) hk1 hFc hP1 hD1
      generalize H1 = H at hP hS ⊢
      have hP : va_P (dC, dI) vwCl ([] ++ (pq_WD cI cZ cM cT hh ms gv tn tb κ)) H := hP
      have hD : va_D A ([] ++ (pq_WD cI cZ cM cT hh ms gv tn tb κ)) := hD
      refine W.widen (k := k0) (n := n0) (by first | exact Nat.le_of_ble_eq_true rfl | omega) (by first | exact Nat.le_of_ble_eq_true rfl | omega) ?_
      obtain ⟨q_45, rfl, hq_46⟩ := hw
      refine lv_goto (tgt := 245) hx hb dL_law_232 (by decide) ?_
      refine lv_istore (lv' := [(11, .int (zi q_45)), (10, .int (zi q_2)), (0, .ref b), (1, .ref hh), (2, .int (zi gv)), (3, .int (zi tn)), (4, .int (zi j)), (5, .int x9), (6, .int (zi (ms.length : Int))), (7, .int (zi w)), (8, .int (zi kk)), (9, .int (zi tb))]) hx hb dL_law_245 hl (by decide) rfl (fun ls hl => ?_)
      refine lv_aload_n hx hb dL_law_247 rfl (lv_at hl 3 rfl) ?_
      refine lv_iload hx hb dL_law_248 (lv_at hl 9 rfl) ?_
      refine lv_iload hx hb dL_law_250 (lv_at hl 1 rfl) ?_
      refine lv_iload hx hb dL_law_252 (lv_at hl 0 rfl) ?_
      refine lv_iload hx hb dL_law_254 (lv_at hl 1 rfl) ?_
      refine lv_iconst (v := zi 1) hx hb dL_law_256 (by decide) ?_
      refine pz_icmp_ne (tgt := 275) hx hb (by omega) dL_law_257 (by decide) (fun c_47 => ?_) (fun c_47 => ?_)
      · exact (show False by omega).elim
      · refine lv_iconst (v := zi 1) hx hb dL_law_260 (by decide) ?_
        refine lv_iload hx hb dL_law_261 (lv_at hl 7 rfl) ?_
        refine lv_bipush (v := zi 6) hx hb dL_law_263 (by decide) ?_
        refine lv_ishr hx hb dL_law_265 ?_
        refine lv_bipush (v := zi 10) hx hb dL_law_266 (by decide) ?_
        have hPc := hP.sub (ws' := []) [] rfl
        have hDc := hD.sub (ws' := []) [] (by decide) rfl
        have hFc := va_free (wc := []) hD hS hA [] rfl
        refine va_calli (va_runS (As := [.int (x9 >>> ((zi 6) &&& 31)), .int (zi 10)]) (rest := [.int (zi 1), .int (zi q_45), .int (zi q_2), .int (zi w), .ref hh]) ⟨hx, hb, hml, hown, hts⟩ (c_L_below l dC dI cI cZ cM cT H.size (x9 >>> ((zi 6) &&& 31)) 10 (by first | assumption | omega | rfl)) (va_cwS 2 hts (zz_gS (goodIn_of _ (by decide +kernel)) zg_c_L_below) rfl rfl rfl (by decide +kernel) ⟨(by first | exact Nat.le_of_ble_eq_true rfl | omega), (by first | exact Nat.le_of_ble_eq_true rfl | omega)⟩) ⟨fun a U g mk q => by obtain ⟨q0, q1, qP, qK, qD⟩ := q; exact ⟨q0, q1, qP, va_K.moved (u := U) (U := U.calling g mk a) (Vm.Alike.refl U.vm) qK, qD⟩, fun U hU hW => ⟨rfl, by rw [hU], by rw [hU]; exact hPc, va_K.moved hW.alike hK, hDc.weaken (fun _ _ _ _ => trivial)⟩⟩ rfl rfl hl.1 rfl (lv_room (by first | exact Nat.le_of_ble_eq_true rfl | omega)) dL_law_268 ⟨(by first | exact Nat.le_of_ble_eq_true rfl | omega), (by first | exact Nat.le_of_ble_eq_true rfl | omega)⟩) hS (fun q _ h => hFc q h) hFc (fun r_48 u t H1 locs ht hvm hw hB hz1 hk1 hS => ?_)
        obtain ⟨hP1, hK1, hD1⟩ := hB
        rw [ht] at hP1
        obtain ⟨hP, hD⟩ := va_joinQ (wr := []) (w1 := []) (pl := (pq_WD cI cZ cM cT hh ms gv tn tb κ)) hP hD [] [] rfl rfl (by decide) (by decide) hk1 hFc hP1 hD1
        generalize H1 = H at hP hS ⊢
        have hP : va_P (dC, dI) vwCl ([] ++ (pq_WD cI cZ cM cT hh ms gv tn tb κ)) H := hP
        have hD : va_D A ([] ++ (pq_WD cI cZ cM cT hh ms gv tn tb κ)) := hD
        refine W.widen (k := k0) (n := n0) (by first | exact Nat.le_of_ble_eq_true rfl | omega) (by first | exact Nat.le_of_ble_eq_true rfl | omega) ?_
        obtain ⟨q_49, rfl, hq_50⟩ := hw
        refine pz_iadd hx hb dL_law_271 ?_
        refine lv_goto (tgt := 276) hx hb dL_law_272 (by decide) ?_
        by_cases hkm : kk = -1
        · have hμ1 : ms[w.toNat]? = some (am, aw, av, ax, T, -1, ka, kb) := by rw [hμ, hkm]
          have hPc := hP.part (cx := []) [] rfl
          have hDc := hD.part (cx := []) [] (by decide) rfl
          have hFc := va_freeP (cx := []) hD hS hA [] rfl
          refine va_calli (vx_runSW (As := [.ref hh, .int (zi w), .int (zi q_2), .int (zi q_45), .int (zi (1 + q_49))]) (rest := []) ⟨hx, hb, hml, hown, hts⟩ (c_L_prove l dC dI cI cZ cM cT H.size hh ms gv tn tb κ w am aw av ax T ka kb q_2 q_45 (1 + q_49) (by first | assumption | omega | rfl) hκ (by first | assumption | omega | rfl) hμ1 (by unfold pq_ic; omega)) (vx_cwSW 5 hts (zz_gS (goodIn_of _ (by decide +kernel)) zg_c_L_prove) rfl rfl rfl (by decide +kernel) ⟨(by first | exact Nat.le_of_ble_eq_true rfl | omega), (by first | exact Nat.le_of_ble_eq_true rfl | omega)⟩) ⟨fun a U g mk q => by obtain ⟨q0, q1, qP, qK, qD⟩ := q; exact ⟨q0, q1, qP, va_K.moved (u := U) (U := U.calling g mk a) (Vm.Alike.refl U.vm) qK, qD⟩, fun U hU hW => ⟨rfl, by rw [hU], by rw [hU]; exact hPc, va_K.moved hW.alike hK, hDc.weaken (fun _ _ _ _ => trivial)⟩⟩ rfl rfl hl.1 rfl (lv_room (by first | exact Nat.le_of_ble_eq_true rfl | omega)) dL_law_276 ⟨(by first | exact Nat.le_of_ble_eq_true rfl | omega), (by first | exact Nat.le_of_ble_eq_true rfl | omega)⟩) hS (fun q _ h => hFc q h) hFc (fun r_51 u t H1 locs ht hvm hw hB hz1 hk1 hS => ?_)
          obtain ⟨κ1_52, ms1_53, tn1_54, hz_55, hm_56, hP1, hK1, hD1⟩ := hB
          rw [ht] at hP1
          obtain ⟨hP, hD⟩ := va_joinP (wr := []) (rx := []) (pl1 := (pq_WD cI cZ cM cT hh ms1_53 (gv + 1) tn1_54 tb κ1_52)) hP hD [] [] rfl rfl (by decide) (by decide) hk1 hFc hP1 hD1
          generalize H1 = H at hP hS ⊢
          have hP : va_P (dC, dI) vwCl ([] ++ (pq_WD cI cZ cM cT hh ms1_53 (gv + 1) tn1_54 tb κ1_52)) H := hP
          have hD : va_D A ([] ++ (pq_WD cI cZ cM cT hh ms1_53 (gv + 1) tn1_54 tb κ1_52)) := hD
          refine W.widen (k := k0) (n := n0) (by first | exact Nat.le_of_ble_eq_true rfl | omega) (by first | exact Nat.le_of_ble_eq_true rfl | omega) ?_
          obtain rfl : r_51 = zi (pb (pq_cert T q_2 q_45 (1 + q_49))) := hw
          by_cases hcq : pq_cert T q_2 q_45 (1 + q_49)
          · have hm1 := hm_56.1 hcq
            have hμ2 : ms1_53[w.toNat]? = some (am, aw, av, ax, T, q_2, q_45, 1 + q_49) := by rw [hm1.1, List.getElem?_set_self (by omega)]
            have hms1 : pq_mo ms1_53 := by rw [hm1.1]; exact pq_mo_set hms ⟨(pq_mo_at hms hμ).1, Or.inr hcq⟩
            have hlen1 : 1 ≤ ms1_53.length := by rw [hm1.1, List.length_set]; exact hlen
            refine pz_top (y := zi 1) (congrArg zi (pb_t hcq)) ?_
            refine lv_istore (lv' := [(12, .int (zi 1)), (11, .int (zi q_45)), (10, .int (zi q_2)), (0, .ref b), (1, .ref hh), (2, .int (zi gv)), (3, .int (zi tn)), (4, .int (zi j)), (5, .int x9), (6, .int (zi (ms.length : Int))), (7, .int (zi w)), (8, .int (zi kk)), (9, .int (zi tb))]) hx hb dL_law_279 hl (by decide) rfl (fun ls hl => ?_)
            refine lv_iload hx hb dL_law_281 (lv_at hl 0 rfl) ?_
            refine pz_if_ge (tgt := 290) hx hb (by omega) dL_law_283 (by decide) (fun c_57 => ?_) (fun c_57 => ?_)
            · refine lv_iconst (v := zi 0) hx hb dL_law_290 (by decide) ?_
              refine lv_iload hx hb dL_law_291 (lv_at hl 11 rfl) ?_
              refine pz_if_lt (tgt := 300) hx hb (by omega) dL_law_293 (by decide) (fun c_58 => ?_) (fun c_58 => ?_)
              · refine lv_iconst (v := zi 0) hx hb dL_law_300 (by decide) ?_
                refine lv_icmp_ne (tgt := 350) hx hb dL_law_301 (by decide) (fun h => absurd (congrArg zi (show (0 : Int) = (0 : Int) from rfl)) h) (fun _ => ?_)
                refine lv_iload hx hb dL_law_304 (lv_at hl 0 rfl) ?_
                refine lv_iconst (v := zi 1) hx hb dL_law_306 (by decide) ?_
                refine pz_icmp_ne (tgt := 334) hx hb (by omega) dL_law_307 (by decide) (fun c_59 => ?_) (fun c_59 => ?_)
                · exact absurd c_59 (by omega)
                · refine lv_aload_n hx hb dL_law_310 rfl (lv_at hl 4 rfl) ?_
                  refine lv_iload hx hb dL_law_311 (lv_at hl 10 rfl) ?_
                  refine lv_iconst (v := zi 2) hx hb dL_law_313 (by decide) ?_
                  have hPc := hP.part (cx := []) [] rfl
                  have hDc := hD.part (cx := []) [] (by decide) rfl
                  have hFc := va_freeP (cx := []) hD hS hA [] rfl
                  refine va_calli (va_runV (As := [.int (zi w), .int (zi 2)]) (rest := []) ⟨hx, hb, hml, hown, hts⟩ (c_X7_ofMachine l dC dI cI cZ cM cT H.size hh ms1_53 (gv + 1) tn1_54 tb κ1_52 w am aw av ax T q_2 q_45 (1 + q_49) 2 hms1 hz_55 (by first | assumption | omega | rfl) hμ2 (by first | assumption | omega | rfl)) (cwV 2 hts (zz_gV (goodIn_of _ (by decide +kernel)) zg_c_X7_ofMachine) rfl rfl rfl (by decide +kernel) ⟨(by first | exact Nat.le_of_ble_eq_true rfl | omega), (by first | exact Nat.le_of_ble_eq_true rfl | omega)⟩) ⟨fun a U g mk q => by obtain ⟨q0, q1, qP, qK, qD⟩ := q; exact ⟨q0, q1, qP, va_K.moved (u := U) (U := U.calling g mk a) (Vm.Alike.refl U.vm) qK, qD⟩, va_recv hK hPc (ci := 6) (q0 := 0) rfl rfl, fun U hU hW => ⟨rfl, by rw [hU], by rw [hU]; exact hPc, va_K.moved hW.alike hK, hDc.weaken (fun _ _ _ _ => trivial)⟩⟩ rfl rfl hl.1 rfl (lv_room (by first | exact Nat.le_of_ble_eq_true rfl | omega)) dL_law_314 ⟨(by first | exact Nat.le_of_ble_eq_true rfl | omega), (by first | exact Nat.le_of_ble_eq_true rfl | omega)⟩) hS (fun q _ h => hFc q h) hFc (fun r_60 u t H1 locs ht hvm hw hB hz1 hk1 hS => ?_)
                  obtain ⟨κ1_61, hz_62, hP1, hK1, hD1⟩ := hB
                  rw [ht] at hP1
                  obtain ⟨hP, hD⟩ := va_joinP (wr := []) (rx := []) (pl1 := (pq_WD cI cZ cM cT hh ms1_53 (gv + 1) tn1_54 tb κ1_61)) hP hD [] [] rfl rfl (by decide) (by decide) hk1 hFc hP1 hD1
                  generalize H1 = H at hP hS ⊢
                  have hP : va_P (dC, dI) vwCl ([] ++ (pq_WD cI cZ cM cT hh ms1_53 (gv + 1) tn1_54 tb κ1_61)) H := hP
                  have hD : va_D A ([] ++ (pq_WD cI cZ cM cT hh ms1_53 (gv + 1) tn1_54 tb κ1_61)) := hD
                  refine W.widen (k := k0) (n := n0) (by first | exact Nat.le_of_ble_eq_true rfl | omega) (by first | exact Nat.le_of_ble_eq_true rfl | omega) ?_
                  obtain rfl : r_60 = zi (pq_om T q_2 q_45 (1 + q_49) (2 : Int)) := hw
                  refine pz_top (y := zi q_2) (congrArg zi (rfl)) ?_
                  refine lv_iload hx hb dL_law_317 (lv_at hl 2 rfl) ?_
                  refine lv_icmp_ne (tgt := 350) hx hb dL_law_319 (by decide) (fun h => absurd (congrArg zi (show q_2 = q_2 from rfl)) h) (fun _ => ?_)
                  refine lv_aload_n hx hb dL_law_322 rfl (lv_at hl 4 rfl) ?_
                  refine lv_iload hx hb dL_law_323 (lv_at hl 10 rfl) ?_
                  refine lv_iconst (v := zi 3) hx hb dL_law_325 (by decide) ?_
                  have hPc := hP.part (cx := []) [] rfl
                  have hDc := hD.part (cx := []) [] (by decide) rfl
                  have hFc := va_freeP (cx := []) hD hS hA [] rfl
                  refine va_calli (va_runV (As := [.int (zi w), .int (zi 3)]) (rest := []) ⟨hx, hb, hml, hown, hts⟩ (c_X7_ofMachine l dC dI cI cZ cM cT H.size hh ms1_53 (gv + 1) tn1_54 tb κ1_61 w am aw av ax T q_2 q_45 (1 + q_49) 3 hms1 hz_62 (by first | assumption | omega | rfl) hμ2 (by first | assumption | omega | rfl)) (cwV 2 hts (zz_gV (goodIn_of _ (by decide +kernel)) zg_c_X7_ofMachine) rfl rfl rfl (by decide +kernel) ⟨(by first | exact Nat.le_of_ble_eq_true rfl | omega), (by first | exact Nat.le_of_ble_eq_true rfl | omega)⟩) ⟨fun a U g mk q => by obtain ⟨q0, q1, qP, qK, qD⟩ := q; exact ⟨q0, q1, qP, va_K.moved (u := U) (U := U.calling g mk a) (Vm.Alike.refl U.vm) qK, qD⟩, va_recv hK hPc (ci := 6) (q0 := 0) rfl rfl, fun U hU hW => ⟨rfl, by rw [hU], by rw [hU]; exact hPc, va_K.moved hW.alike hK, hDc.weaken (fun _ _ _ _ => trivial)⟩⟩ rfl rfl hl.1 rfl (lv_room (by first | exact Nat.le_of_ble_eq_true rfl | omega)) dL_law_326 ⟨(by first | exact Nat.le_of_ble_eq_true rfl | omega), (by first | exact Nat.le_of_ble_eq_true rfl | omega)⟩) hS (fun q _ h => hFc q h) hFc (fun r_63 u t H1 locs ht hvm hw hB hz1 hk1 hS => ?_)
                  obtain ⟨κ1_64, hz_65, hP1, hK1, hD1⟩ := hB
                  rw [ht] at hP1
                  obtain ⟨hP, hD⟩ := va_joinP (wr := []) (rx := []) (pl1 := (pq_WD cI cZ cM cT hh ms1_53 (gv + 1) tn1_54 tb κ1_64)) hP hD [] [] rfl rfl (by decide) (by decide) hk1 hFc hP1 hD1
                  generalize H1 = H at hP hS ⊢
                  have hP : va_P (dC, dI) vwCl ([] ++ (pq_WD cI cZ cM cT hh ms1_53 (gv + 1) tn1_54 tb κ1_64)) H := hP
                  have hD : va_D A ([] ++ (pq_WD cI cZ cM cT hh ms1_53 (gv + 1) tn1_54 tb κ1_64)) := hD
                  refine W.widen (k := k0) (n := n0) (by first | exact Nat.le_of_ble_eq_true rfl | omega) (by first | exact Nat.le_of_ble_eq_true rfl | omega) ?_
                  obtain rfl : r_63 = zi (pq_om T q_2 q_45 (1 + q_49) (3 : Int)) := hw
                  refine pz_top (y := zi q_45) (congrArg zi (rfl)) ?_
                  refine lv_iload hx hb dL_law_329 (lv_at hl 1 rfl) ?_
                  refine lv_icmp_ne (tgt := 350) hx hb dL_law_331 (by decide) (fun h => absurd (congrArg zi (show q_45 = q_45 from rfl)) h) (fun _ => ?_)
                  refine lv_iload hx hb dL_law_334 (lv_at hl 0 rfl) ?_
                  refine pz_if_ne (tgt := 352) hx hb (by omega) dL_law_336 (by decide) (fun c_66 => ?_) (fun c_66 => ?_)
                  · refine lv_iload_n hx hb dL_law_352 rfl (lv_at hl 5 rfl) ?_
                    refine lv_iload hx hb dL_law_353 (lv_at hl 0 rfl) ?_
                    refine pz_if_ge (tgt := 362) hx hb (by omega) dL_law_355 (by decide) (fun c_67 => ?_) (fun c_67 => ?_)
                    · refine lv_iconst (v := zi 1) hx hb dL_law_362 (by decide) ?_
                      refine pz_iadd hx hb dL_law_363 ?_
                      refine pz_top (y := (zi (gv + 1))) (rfl) ?_
                      refine lv_istore_n (lv' := [(2, .int (zi (gv + 1))), (12, .int (zi 1)), (11, .int (zi q_45)), (10, .int (zi q_2)), (0, .ref b), (1, .ref hh), (3, .int (zi tn)), (4, .int (zi j)), (5, .int x9), (6, .int (zi (ms.length : Int))), (7, .int (zi w)), (8, .int (zi kk)), (9, .int (zi tb))]) hx hb dL_law_364 rfl hl (by decide) rfl (fun ls hl => ?_)
                      refine lv_iload_n hx hb dL_law_365 rfl (lv_at hl 6 rfl) ?_
                      refine lv_iload hx hb dL_law_366 (lv_at hl 1 rfl) ?_
                      refine lv_iconst (v := zi 1) hx hb dL_law_368 (by decide) ?_
                      refine pz_icmp_ne (tgt := 376) hx hb (by omega) dL_law_369 (by decide) (fun c_68 => ?_) (fun c_68 => ?_)
                      · exact absurd c_68 (by omega)
                      · refine lv_iconst (v := zi 1) hx hb dL_law_372 (by decide) ?_
                        refine lv_goto (tgt := 377) hx hb dL_law_373 (by decide) ?_
                        refine pz_iadd hx hb dL_law_377 ?_
                        refine pz_top (y := (zi tn1_54)) (congrArg zi (by rw [hm1.2])) ?_
                        refine lv_istore_n (lv' := [(3, .int (zi tn1_54)), (2, .int (zi (gv + 1))), (12, .int (zi 1)), (11, .int (zi q_45)), (10, .int (zi q_2)), (0, .ref b), (1, .ref hh), (4, .int (zi j)), (5, .int x9), (6, .int (zi (ms.length : Int))), (7, .int (zi w)), (8, .int (zi kk)), (9, .int (zi tb))]) hx hb dL_law_378 rfl hl (by decide) rfl (fun ls hl => ?_)
                        refine lv_goto (tgt := 752) hx hb dL_law_379 (by decide) ?_
                        exact K752 _ _ _ _ _ _ _ _ _ _ (by omega) (by omega) hms1 hlen1 hz_65 hP hD hS (lv_sub hl [5, 6, 1, 0, 7] rfl)
                    · exact absurd c_67 (by omega)
                  · exact absurd c_66 (by omega)
              · exact (show False by omega).elim
            · exact absurd c_57 (by omega)
          · have hm1 := hm_56.2 hcq
            have hμ2 : ms1_53[w.toNat]? = some (am, aw, av, ax, T, -1, ka, kb) := by rw [hm1.1]; exact hμ1
            have hms1 : pq_mo ms1_53 := by rw [hm1.1]; exact hms
            have hlen1 : 1 ≤ ms1_53.length := by rw [hm1.1]; exact hlen
            refine pz_top (y := zi 0) (congrArg zi (pb_f hcq)) ?_
            refine lv_istore (lv' := [(12, .int (zi 0)), (11, .int (zi q_45)), (10, .int (zi q_2)), (0, .ref b), (1, .ref hh), (2, .int (zi gv)), (3, .int (zi tn)), (4, .int (zi j)), (5, .int x9), (6, .int (zi (ms.length : Int))), (7, .int (zi w)), (8, .int (zi kk)), (9, .int (zi tb))]) hx hb dL_law_279 hl (by decide) rfl (fun ls hl => ?_)
            refine lv_iload hx hb dL_law_281 (lv_at hl 0 rfl) ?_
            refine pz_if_ge (tgt := 290) hx hb (by omega) dL_law_283 (by decide) (fun c_69 => ?_) (fun c_69 => ?_)
            · refine lv_iconst (v := zi 0) hx hb dL_law_290 (by decide) ?_
              refine lv_iload hx hb dL_law_291 (lv_at hl 11 rfl) ?_
              refine pz_if_lt (tgt := 300) hx hb (by omega) dL_law_293 (by decide) (fun c_70 => ?_) (fun c_70 => ?_)
              · refine lv_iconst (v := zi 0) hx hb dL_law_300 (by decide) ?_
                refine lv_icmp_ne (tgt := 350) hx hb dL_law_301 (by decide) (fun h => absurd (congrArg zi (show (0 : Int) = (0 : Int) from rfl)) h) (fun _ => ?_)
                refine lv_iload hx hb dL_law_304 (lv_at hl 0 rfl) ?_
                refine lv_iconst (v := zi 1) hx hb dL_law_306 (by decide) ?_
                refine pz_icmp_ne (tgt := 334) hx hb (by omega) dL_law_307 (by decide) (fun c_71 => ?_) (fun c_71 => ?_)
                · refine lv_iload hx hb dL_law_334 (lv_at hl 0 rfl) ?_
                  refine pz_if_ne (tgt := 352) hx hb (by omega) dL_law_336 (by decide) (fun c_72 => ?_) (fun c_72 => ?_)
                  · exact absurd c_72 (by omega)
                  · refine lv_aload_n hx hb dL_law_339 rfl (lv_at hl 4 rfl) ?_
                    refine lv_iload hx hb dL_law_340 (lv_at hl 10 rfl) ?_
                    refine lv_iconst (v := zi 2) hx hb dL_law_342 (by decide) ?_
                    have hPc := hP.part (cx := []) [] rfl
                    have hDc := hD.part (cx := []) [] (by decide) rfl
                    have hFc := va_freeP (cx := []) hD hS hA [] rfl
                    refine va_calli (va_runV (As := [.int (zi w), .int (zi 2)]) (rest := []) ⟨hx, hb, hml, hown, hts⟩ (c_X7_ofMachine l dC dI cI cZ cM cT H.size hh ms1_53 (gv + 1) tn1_54 tb κ1_52 w am aw av ax T (-1) ka kb 2 hms1 hz_55 (by first | assumption | omega | rfl) hμ2 (by first | assumption | omega | rfl)) (cwV 2 hts (zz_gV (goodIn_of _ (by decide +kernel)) zg_c_X7_ofMachine) rfl rfl rfl (by decide +kernel) ⟨(by first | exact Nat.le_of_ble_eq_true rfl | omega), (by first | exact Nat.le_of_ble_eq_true rfl | omega)⟩) ⟨fun a U g mk q => by obtain ⟨q0, q1, qP, qK, qD⟩ := q; exact ⟨q0, q1, qP, va_K.moved (u := U) (U := U.calling g mk a) (Vm.Alike.refl U.vm) qK, qD⟩, va_recv hK hPc (ci := 6) (q0 := 0) rfl rfl, fun U hU hW => ⟨rfl, by rw [hU], by rw [hU]; exact hPc, va_K.moved hW.alike hK, hDc.weaken (fun _ _ _ _ => trivial)⟩⟩ rfl rfl hl.1 rfl (lv_room (by first | exact Nat.le_of_ble_eq_true rfl | omega)) dL_law_343 ⟨(by first | exact Nat.le_of_ble_eq_true rfl | omega), (by first | exact Nat.le_of_ble_eq_true rfl | omega)⟩) hS (fun q _ h => hFc q h) hFc (fun r_73 u t H1 locs ht hvm hw hB hz1 hk1 hS => ?_)
                    obtain ⟨κ1_74, hz_75, hP1, hK1, hD1⟩ := hB
                    rw [ht] at hP1
                    obtain ⟨hP, hD⟩ := va_joinP (wr := []) (rx := []) (pl1 := (pq_WD cI cZ cM cT hh ms1_53 (gv + 1) tn1_54 tb κ1_74)) hP hD [] [] rfl rfl (by decide) (by decide) hk1 hFc hP1 hD1
                    generalize H1 = H at hP hS ⊢
                    have hP : va_P (dC, dI) vwCl ([] ++ (pq_WD cI cZ cM cT hh ms1_53 (gv + 1) tn1_54 tb κ1_74)) H := hP
                    have hD : va_D A ([] ++ (pq_WD cI cZ cM cT hh ms1_53 (gv + 1) tn1_54 tb κ1_74)) := hD
                    refine W.widen (k := k0) (n := n0) (by first | exact Nat.le_of_ble_eq_true rfl | omega) (by first | exact Nat.le_of_ble_eq_true rfl | omega) ?_
                    obtain rfl : r_73 = zi (pq_om T (-1) ka kb (2 : Int)) := hw
                    refine pz_top (y := zi (-1)) (congrArg zi (rfl)) ?_
                    refine lv_iconst (v := zi (-1)) hx hb dL_law_346 (by decide) ?_
                    refine lv_icmp_eq (tgt := 352) hx hb dL_law_347 (by decide) (fun _ => ?_) (fun h => absurd (congrArg zi (show (-1 : Int) = (-1 : Int) from rfl)) h)
                    refine lv_iload_n hx hb dL_law_352 rfl (lv_at hl 5 rfl) ?_
                    refine lv_iload hx hb dL_law_353 (lv_at hl 0 rfl) ?_
                    refine pz_if_ge (tgt := 362) hx hb (by omega) dL_law_355 (by decide) (fun c_76 => ?_) (fun c_76 => ?_)
                    · refine lv_iconst (v := zi 1) hx hb dL_law_362 (by decide) ?_
                      refine pz_iadd hx hb dL_law_363 ?_
                      refine pz_top (y := (zi (gv + 1))) (rfl) ?_
                      refine lv_istore_n (lv' := [(2, .int (zi (gv + 1))), (12, .int (zi 0)), (11, .int (zi q_45)), (10, .int (zi q_2)), (0, .ref b), (1, .ref hh), (3, .int (zi tn)), (4, .int (zi j)), (5, .int x9), (6, .int (zi (ms.length : Int))), (7, .int (zi w)), (8, .int (zi kk)), (9, .int (zi tb))]) hx hb dL_law_364 rfl hl (by decide) rfl (fun ls hl => ?_)
                      refine lv_iload_n hx hb dL_law_365 rfl (lv_at hl 6 rfl) ?_
                      refine lv_iload hx hb dL_law_366 (lv_at hl 1 rfl) ?_
                      refine lv_iconst (v := zi 1) hx hb dL_law_368 (by decide) ?_
                      refine pz_icmp_ne (tgt := 376) hx hb (by omega) dL_law_369 (by decide) (fun c_77 => ?_) (fun c_77 => ?_)
                      · refine lv_iconst (v := zi 0) hx hb dL_law_376 (by decide) ?_
                        refine pz_iadd hx hb dL_law_377 ?_
                        refine pz_top (y := (zi tn1_54)) (congrArg zi (by rw [hm1.2]; exact Int.add_zero _)) ?_
                        refine lv_istore_n (lv' := [(3, .int (zi tn1_54)), (2, .int (zi (gv + 1))), (12, .int (zi 0)), (11, .int (zi q_45)), (10, .int (zi q_2)), (0, .ref b), (1, .ref hh), (4, .int (zi j)), (5, .int x9), (6, .int (zi (ms.length : Int))), (7, .int (zi w)), (8, .int (zi kk)), (9, .int (zi tb))]) hx hb dL_law_378 rfl hl (by decide) rfl (fun ls hl => ?_)
                        refine lv_goto (tgt := 752) hx hb dL_law_379 (by decide) ?_
                        exact K752 _ _ _ _ _ _ _ _ _ _ (by omega) (by omega) hms1 hlen1 hz_75 hP hD hS (lv_sub hl [5, 6, 1, 0, 7] rfl)
                      · exact absurd c_77 (by omega)
                    · exact absurd c_76 (by omega)
                · exact absurd c_71 (by omega)
              · exact (show False by omega).elim
            · exact absurd c_69 (by omega)
        · have hPc := hP.part (cx := []) [] rfl
          have hDc := hD.part (cx := []) [] (by decide) rfl
          have hFc := va_freeP (cx := []) hD hS hA [] rfl
          have hZc := ((hZ.kept hS.2.1).narrow hFc)
          refine va_calli (vx_runSW (As := [.ref hh, .int (zi w), .int (zi q_2), .int (zi q_45), .int (zi (1 + q_49))]) (rest := []) ⟨hx, hb, hml, hown, hts⟩ (c_L_proveX l dC dI cI cZ cM cT hnt a0 H.size hh ms gv tn tb κ w am aw av ax T kk ka kb q_2 q_45 (1 + q_49) (by first | assumption | omega | rfl) hκ (by first | assumption | omega | rfl) hμ (by first | assumption | omega | rfl) (by unfold pq_ic; omega)) (vx_cwSW 5 hts (zz_gS (goodIn_of _ (by decide +kernel)) zg_c_L_proveX) rfl rfl rfl (by decide +kernel) ⟨(by first | exact Nat.le_of_ble_eq_true rfl | omega), (by first | exact Nat.le_of_ble_eq_true rfl | omega)⟩) ⟨fun a U g mk q => by obtain ⟨q0, q1, qP, qK, qD, qZ⟩ := q; exact ⟨q0, q1, qP, va_K.moved (u := U) (U := U.calling g mk a) (Vm.Alike.refl U.vm) qK, qD, qZ.call⟩, fun U hU hW => ⟨rfl, by rw [hU], by rw [hU]; exact hPc, va_K.moved hW.alike hK, hDc.weaken (fun _ _ _ _ => trivial), by rw [hU]; exact hZc.warm hW⟩⟩ rfl rfl hl.1 rfl (lv_room (by first | exact Nat.le_of_ble_eq_true rfl | omega)) dL_law_276 ⟨(by first | exact Nat.le_of_ble_eq_true rfl | omega), (by first | exact Nat.le_of_ble_eq_true rfl | omega)⟩) hS (fun q _ h => hFc q h) hFc (fun r_78 u t H1 locs ht hvm hw hB hz1 hk1 hS => ?_)
          obtain ⟨hP1, hK1, hD1⟩ := hB
          rw [ht] at hP1
          obtain ⟨hP, hD⟩ := va_joinP (wr := []) (rx := []) (pl1 := (pq_WD cI cZ cM cT hh ms gv tn tb κ)) hP hD [] [] rfl rfl (by decide) (by decide) hk1 hFc hP1 hD1
          generalize H1 = H at hP hS ⊢
          have hP : va_P (dC, dI) vwCl ([] ++ (pq_WD cI cZ cM cT hh ms gv tn tb κ)) H := hP
          have hD : va_D A ([] ++ (pq_WD cI cZ cM cT hh ms gv tn tb κ)) := hD
          refine W.widen (k := (k0 + 1)) (n := (n0 + 6)) (by first | exact Nat.le_of_ble_eq_true rfl | omega) (by first | exact Nat.le_of_ble_eq_true rfl | omega) ?_
          obtain rfl : r_78 = zi (-1) := hw
          refine lv_istore (lv' := [(12, .int (zi (-1))), (11, .int (zi q_45)), (10, .int (zi q_2)), (0, .ref b), (1, .ref hh), (2, .int (zi gv)), (3, .int (zi tn)), (4, .int (zi j)), (5, .int x9), (6, .int (zi (ms.length : Int))), (7, .int (zi w)), (8, .int (zi kk)), (9, .int (zi tb))]) hx hb dL_law_279 hl (by decide) rfl (fun ls hl => ?_)
          refine lv_iload hx hb dL_law_281 (lv_at hl 0 rfl) ?_
          refine pz_if_ge (tgt := 290) hx hb (by omega) dL_law_283 (by decide) (fun c_79 => ?_) (fun c_79 => ?_)
          · exact absurd c_79 (by omega)
          · refine lv_iconst (v := zi 1) hx hb dL_law_286 (by decide) ?_
            refine lv_goto (tgt := 291) hx hb dL_law_287 (by decide) ?_
            refine lv_iload hx hb dL_law_291 (lv_at hl 11 rfl) ?_
            refine pz_if_lt (tgt := 300) hx hb (by omega) dL_law_293 (by decide) (fun c_80 => ?_) (fun c_80 => ?_)
            · exact (show False by omega).elim
            · refine lv_iconst (v := zi 1) hx hb dL_law_296 (by decide) ?_
              refine lv_goto (tgt := 301) hx hb dL_law_297 (by decide) ?_
              refine lv_icmp_ne (tgt := 350) hx hb dL_law_301 (by decide) (fun h => absurd (congrArg zi (show (1 : Int) = (1 : Int) from rfl)) h) (fun _ => ?_)
              refine lv_iload hx hb dL_law_304 (lv_at hl 0 rfl) ?_
              refine lv_iconst (v := zi 1) hx hb dL_law_306 (by decide) ?_
              refine pz_icmp_ne (tgt := 334) hx hb (by omega) dL_law_307 (by decide) (fun c_81 => ?_) (fun c_81 => ?_)
              · refine lv_iload hx hb dL_law_334 (lv_at hl 0 rfl) ?_
                refine pz_if_ne (tgt := 352) hx hb (by omega) dL_law_336 (by decide) (fun c_82 => ?_) (fun c_82 => ?_)
                · refine lv_iload_n hx hb dL_law_352 rfl (lv_at hl 5 rfl) ?_
                  refine lv_iload hx hb dL_law_353 (lv_at hl 0 rfl) ?_
                  refine pz_if_ge (tgt := 362) hx hb (by omega) dL_law_355 (by decide) (fun c_83 => ?_) (fun c_83 => ?_)
                  · exact absurd c_83 (by omega)
                  · refine lv_iconst (v := zi 0) hx hb dL_law_358 (by decide) ?_
                    refine lv_goto (tgt := 363) hx hb dL_law_359 (by decide) ?_
                    refine pz_iadd hx hb dL_law_363 ?_
                    refine pz_top (y := (zi gv)) (congrArg zi (Int.add_zero _)) ?_
                    refine lv_istore_n (lv' := [(2, .int (zi gv)), (12, .int (zi (-1))), (11, .int (zi q_45)), (10, .int (zi q_2)), (0, .ref b), (1, .ref hh), (3, .int (zi tn)), (4, .int (zi j)), (5, .int x9), (6, .int (zi (ms.length : Int))), (7, .int (zi w)), (8, .int (zi kk)), (9, .int (zi tb))]) hx hb dL_law_364 rfl hl (by decide) rfl (fun ls hl => ?_)
                    refine lv_iload_n hx hb dL_law_365 rfl (lv_at hl 6 rfl) ?_
                    refine lv_iload hx hb dL_law_366 (lv_at hl 1 rfl) ?_
                    refine lv_iconst (v := zi 1) hx hb dL_law_368 (by decide) ?_
                    refine pz_icmp_ne (tgt := 376) hx hb (by omega) dL_law_369 (by decide) (fun c_84 => ?_) (fun c_84 => ?_)
                    · refine lv_iconst (v := zi 0) hx hb dL_law_376 (by decide) ?_
                      refine pz_iadd hx hb dL_law_377 ?_
                      refine pz_top (y := (zi tn)) (congrArg zi (Int.add_zero _)) ?_
                      refine lv_istore_n (lv' := [(3, .int (zi tn)), (2, .int (zi gv)), (12, .int (zi (-1))), (11, .int (zi q_45)), (10, .int (zi q_2)), (0, .ref b), (1, .ref hh), (4, .int (zi j)), (5, .int x9), (6, .int (zi (ms.length : Int))), (7, .int (zi w)), (8, .int (zi kk)), (9, .int (zi tb))]) hx hb dL_law_378 rfl hl (by decide) rfl (fun ls hl => ?_)
                      refine lv_goto (tgt := 752) hx hb dL_law_379 (by decide) ?_
                      exact K752 _ _ _ _ _ _ _ _ _ _ (by omega) (by omega) hms hlen hκ hP hD hS (lv_sub hl [5, 6, 1, 0, 7] rfl)
                    · exact absurd c_84 (by omega)
                · exact absurd c_82 (by omega)
              · exact absurd c_81 (by omega)
  · refine lv_iconst (v := zi 1) hx hb dL_law_203 (by decide) ?_
    refine lv_iload hx hb dL_law_204 (lv_at hl 6 rfl) ?_
    refine lv_iconst (v := zi 5) hx hb dL_law_206 (by decide) ?_
    refine lv_ishr hx hb dL_law_207 ?_
    refine lv_bipush (v := zi 30) hx hb dL_law_208 (by decide) ?_
    have hPc := hP.sub (ws' := []) [] rfl
    have hDc := hD.sub (ws' := []) [] (by decide) rfl
    have hFc := va_free (wc := []) hD hS hA [] rfl
    refine va_calli (va_runS (As := [.int (x9 >>> ((zi 5) &&& 31)), .int (zi 30)]) (rest := [.int (zi 1)]) ⟨hx, hb, hml, hown, hts⟩ (c_L_below l dC dI cI cZ cM cT H.size (x9 >>> ((zi 5) &&& 31)) 30 (by first | assumption | omega | rfl)) (va_cwS 2 hts (zz_gS (goodIn_of _ (by decide +kernel)) zg_c_L_below) rfl rfl rfl (by decide +kernel) ⟨(by first | exact Nat.le_of_ble_eq_true rfl | omega), (by first | exact Nat.le_of_ble_eq_true rfl | omega)⟩) ⟨fun a U g mk q => by obtain ⟨q0, q1, qP, qK, qD⟩ := q; exact ⟨q0, q1, qP, va_K.moved (u := U) (U := U.calling g mk a) (Vm.Alike.refl U.vm) qK, qD⟩, fun U hU hW => ⟨rfl, by rw [hU], by rw [hU]; exact hPc, va_K.moved hW.alike hK, hDc.weaken (fun _ _ _ _ => trivial)⟩⟩ rfl rfl hl.1 rfl (lv_room (by first | exact Nat.le_of_ble_eq_true rfl | omega)) dL_law_210 ⟨(by first | exact Nat.le_of_ble_eq_true rfl | omega), (by first | exact Nat.le_of_ble_eq_true rfl | omega)⟩) hS (fun q _ h => hFc q h) hFc (fun r_85 u t H1 locs ht hvm hw hB hz1 hk1 hS => ?_)
    obtain ⟨hP1, hK1, hD1⟩ := hB
    rw [ht] at hP1
    obtain ⟨hP, hD⟩ := va_joinQ (wr := []) (w1 := []) (pl := (pq_WD cI cZ cM cT hh ms gv tn tb κ)) hP hD [] [] rfl rfl (by decide) (by decide) hk1 hFc hP1 hD1
    generalize H1 = H at hP hS ⊢
    have hP : va_P (dC, dI) vwCl ([] ++ (pq_WD cI cZ cM cT hh ms gv tn tb κ)) H := hP
    have hD : va_D A ([] ++ (pq_WD cI cZ cM cT hh ms gv tn tb κ)) := hD
    refine W.widen (k := k0) (n := n0) (by first | exact Nat.le_of_ble_eq_true rfl | omega) (by first | exact Nat.le_of_ble_eq_true rfl | omega) ?_
    obtain ⟨q_86, rfl, hq_87⟩ := hw
    refine pz_iadd hx hb dL_law_213 ?_
    refine lv_goto (tgt := 245) hx hb dL_law_214 (by decide) ?_
    refine lv_istore (lv' := [(11, .int (zi (1 + q_86))), (10, .int (zi q_2)), (0, .ref b), (1, .ref hh), (2, .int (zi gv)), (3, .int (zi tn)), (4, .int (zi j)), (5, .int x9), (6, .int (zi (ms.length : Int))), (7, .int (zi w)), (8, .int (zi kk)), (9, .int (zi tb))]) hx hb dL_law_245 hl (by decide) rfl (fun ls hl => ?_)
    refine lv_aload_n hx hb dL_law_247 rfl (lv_at hl 3 rfl) ?_
    refine lv_iload hx hb dL_law_248 (lv_at hl 9 rfl) ?_
    refine lv_iload hx hb dL_law_250 (lv_at hl 1 rfl) ?_
    refine lv_iload hx hb dL_law_252 (lv_at hl 0 rfl) ?_
    refine lv_iload hx hb dL_law_254 (lv_at hl 1 rfl) ?_
    refine lv_iconst (v := zi 1) hx hb dL_law_256 (by decide) ?_
    refine pz_icmp_ne (tgt := 275) hx hb (by omega) dL_law_257 (by decide) (fun c_88 => ?_) (fun c_88 => ?_)
    · refine lv_iconst (v := zi 0) hx hb dL_law_275 (by decide) ?_
      by_cases hkm : kk = -1
      · have hμ1 : ms[w.toNat]? = some (am, aw, av, ax, T, -1, ka, kb) := by rw [hμ, hkm]
        have hPc := hP.part (cx := []) [] rfl
        have hDc := hD.part (cx := []) [] (by decide) rfl
        have hFc := va_freeP (cx := []) hD hS hA [] rfl
        refine va_calli (vx_runSW (As := [.ref hh, .int (zi w), .int (zi q_2), .int (zi (1 + q_86)), .int (zi 0)]) (rest := []) ⟨hx, hb, hml, hown, hts⟩ (c_L_prove l dC dI cI cZ cM cT H.size hh ms gv tn tb κ w am aw av ax T ka kb q_2 (1 + q_86) 0 (by first | assumption | omega | rfl) hκ (by first | assumption | omega | rfl) hμ1 (by unfold pq_ic; omega)) (vx_cwSW 5 hts (zz_gS (goodIn_of _ (by decide +kernel)) zg_c_L_prove) rfl rfl rfl (by decide +kernel) ⟨(by first | exact Nat.le_of_ble_eq_true rfl | omega), (by first | exact Nat.le_of_ble_eq_true rfl | omega)⟩) ⟨fun a U g mk q => by obtain ⟨q0, q1, qP, qK, qD⟩ := q; exact ⟨q0, q1, qP, va_K.moved (u := U) (U := U.calling g mk a) (Vm.Alike.refl U.vm) qK, qD⟩, fun U hU hW => ⟨rfl, by rw [hU], by rw [hU]; exact hPc, va_K.moved hW.alike hK, hDc.weaken (fun _ _ _ _ => trivial)⟩⟩ rfl rfl hl.1 rfl (lv_room (by first | exact Nat.le_of_ble_eq_true rfl | omega)) dL_law_276 ⟨(by first | exact Nat.le_of_ble_eq_true rfl | omega), (by first | exact Nat.le_of_ble_eq_true rfl | omega)⟩) hS (fun q _ h => hFc q h) hFc (fun r_89 u t H1 locs ht hvm hw hB hz1 hk1 hS => ?_)
        obtain ⟨κ1_90, ms1_91, tn1_92, hz_93, hm_94, hP1, hK1, hD1⟩ := hB
        rw [ht] at hP1
        obtain ⟨hP, hD⟩ := va_joinP (wr := []) (rx := []) (pl1 := (pq_WD cI cZ cM cT hh ms1_91 (gv + 1) tn1_92 tb κ1_90)) hP hD [] [] rfl rfl (by decide) (by decide) hk1 hFc hP1 hD1
        generalize H1 = H at hP hS ⊢
        have hP : va_P (dC, dI) vwCl ([] ++ (pq_WD cI cZ cM cT hh ms1_91 (gv + 1) tn1_92 tb κ1_90)) H := hP
        have hD : va_D A ([] ++ (pq_WD cI cZ cM cT hh ms1_91 (gv + 1) tn1_92 tb κ1_90)) := hD
        refine W.widen (k := k0) (n := n0) (by first | exact Nat.le_of_ble_eq_true rfl | omega) (by first | exact Nat.le_of_ble_eq_true rfl | omega) ?_
        obtain rfl : r_89 = zi (pb (pq_cert T q_2 (1 + q_86) (0 : Int))) := hw
        by_cases hcq : pq_cert T q_2 (1 + q_86) 0
        · have hm1 := hm_94.1 hcq
          have hμ2 : ms1_91[w.toNat]? = some (am, aw, av, ax, T, q_2, 1 + q_86, 0) := by rw [hm1.1, List.getElem?_set_self (by omega)]
          have hms1 : pq_mo ms1_91 := by rw [hm1.1]; exact pq_mo_set hms ⟨(pq_mo_at hms hμ).1, Or.inr hcq⟩
          have hlen1 : 1 ≤ ms1_91.length := by rw [hm1.1, List.length_set]; exact hlen
          refine pz_top (y := zi 1) (congrArg zi (pb_t hcq)) ?_
          refine lv_istore (lv' := [(12, .int (zi 1)), (11, .int (zi (1 + q_86))), (10, .int (zi q_2)), (0, .ref b), (1, .ref hh), (2, .int (zi gv)), (3, .int (zi tn)), (4, .int (zi j)), (5, .int x9), (6, .int (zi (ms.length : Int))), (7, .int (zi w)), (8, .int (zi kk)), (9, .int (zi tb))]) hx hb dL_law_279 hl (by decide) rfl (fun ls hl => ?_)
          refine lv_iload hx hb dL_law_281 (lv_at hl 0 rfl) ?_
          refine pz_if_ge (tgt := 290) hx hb (by omega) dL_law_283 (by decide) (fun c_95 => ?_) (fun c_95 => ?_)
          · refine lv_iconst (v := zi 0) hx hb dL_law_290 (by decide) ?_
            refine lv_iload hx hb dL_law_291 (lv_at hl 11 rfl) ?_
            refine pz_if_lt (tgt := 300) hx hb (by omega) dL_law_293 (by decide) (fun c_96 => ?_) (fun c_96 => ?_)
            · refine lv_iconst (v := zi 0) hx hb dL_law_300 (by decide) ?_
              refine lv_icmp_ne (tgt := 350) hx hb dL_law_301 (by decide) (fun h => absurd (congrArg zi (show (0 : Int) = (0 : Int) from rfl)) h) (fun _ => ?_)
              refine lv_iload hx hb dL_law_304 (lv_at hl 0 rfl) ?_
              refine lv_iconst (v := zi 1) hx hb dL_law_306 (by decide) ?_
              refine pz_icmp_ne (tgt := 334) hx hb (by omega) dL_law_307 (by decide) (fun c_97 => ?_) (fun c_97 => ?_)
              · exact absurd c_97 (by omega)
              · refine lv_aload_n hx hb dL_law_310 rfl (lv_at hl 4 rfl) ?_
                refine lv_iload hx hb dL_law_311 (lv_at hl 10 rfl) ?_
                refine lv_iconst (v := zi 2) hx hb dL_law_313 (by decide) ?_
                have hPc := hP.part (cx := []) [] rfl
                have hDc := hD.part (cx := []) [] (by decide) rfl
                have hFc := va_freeP (cx := []) hD hS hA [] rfl
                refine va_calli (va_runV (As := [.int (zi w), .int (zi 2)]) (rest := []) ⟨hx, hb, hml, hown, hts⟩ (c_X7_ofMachine l dC dI cI cZ cM cT H.size hh ms1_91 (gv + 1) tn1_92 tb κ1_90 w am aw av ax T q_2 (1 + q_86) 0 2 hms1 hz_93 (by first | assumption | omega | rfl) hμ2 (by first | assumption | omega | rfl)) (cwV 2 hts (zz_gV (goodIn_of _ (by decide +kernel)) zg_c_X7_ofMachine) rfl rfl rfl (by decide +kernel) ⟨(by first | exact Nat.le_of_ble_eq_true rfl | omega), (by first | exact Nat.le_of_ble_eq_true rfl | omega)⟩) ⟨fun a U g mk q => by obtain ⟨q0, q1, qP, qK, qD⟩ := q; exact ⟨q0, q1, qP, va_K.moved (u := U) (U := U.calling g mk a) (Vm.Alike.refl U.vm) qK, qD⟩, va_recv hK hPc (ci := 6) (q0 := 0) rfl rfl, fun U hU hW => ⟨rfl, by rw [hU], by rw [hU]; exact hPc, va_K.moved hW.alike hK, hDc.weaken (fun _ _ _ _ => trivial)⟩⟩ rfl rfl hl.1 rfl (lv_room (by first | exact Nat.le_of_ble_eq_true rfl | omega)) dL_law_314 ⟨(by first | exact Nat.le_of_ble_eq_true rfl | omega), (by first | exact Nat.le_of_ble_eq_true rfl | omega)⟩) hS (fun q _ h => hFc q h) hFc (fun r_98 u t H1 locs ht hvm hw hB hz1 hk1 hS => ?_)
                obtain ⟨κ1_99, hz_100, hP1, hK1, hD1⟩ := hB
                rw [ht] at hP1
                obtain ⟨hP, hD⟩ := va_joinP (wr := []) (rx := []) (pl1 := (pq_WD cI cZ cM cT hh ms1_91 (gv + 1) tn1_92 tb κ1_99)) hP hD [] [] rfl rfl (by decide) (by decide) hk1 hFc hP1 hD1
                generalize H1 = H at hP hS ⊢
                have hP : va_P (dC, dI) vwCl ([] ++ (pq_WD cI cZ cM cT hh ms1_91 (gv + 1) tn1_92 tb κ1_99)) H := hP
                have hD : va_D A ([] ++ (pq_WD cI cZ cM cT hh ms1_91 (gv + 1) tn1_92 tb κ1_99)) := hD
                refine W.widen (k := k0) (n := n0) (by first | exact Nat.le_of_ble_eq_true rfl | omega) (by first | exact Nat.le_of_ble_eq_true rfl | omega) ?_
                obtain rfl : r_98 = zi (pq_om T q_2 (1 + q_86) (0 : Int) (2 : Int)) := hw
                refine pz_top (y := zi q_2) (congrArg zi (rfl)) ?_
                refine lv_iload hx hb dL_law_317 (lv_at hl 2 rfl) ?_
                refine lv_icmp_ne (tgt := 350) hx hb dL_law_319 (by decide) (fun h => absurd (congrArg zi (show q_2 = q_2 from rfl)) h) (fun _ => ?_)
                refine lv_aload_n hx hb dL_law_322 rfl (lv_at hl 4 rfl) ?_
                refine lv_iload hx hb dL_law_323 (lv_at hl 10 rfl) ?_
                refine lv_iconst (v := zi 3) hx hb dL_law_325 (by decide) ?_
                have hPc := hP.part (cx := []) [] rfl
                have hDc := hD.part (cx := []) [] (by decide) rfl
                have hFc := va_freeP (cx := []) hD hS hA [] rfl
                refine va_calli (va_runV (As := [.int (zi w), .int (zi 3)]) (rest := []) ⟨hx, hb, hml, hown, hts⟩ (c_X7_ofMachine l dC dI cI cZ cM cT H.size hh ms1_91 (gv + 1) tn1_92 tb κ1_99 w am aw av ax T q_2 (1 + q_86) 0 3 hms1 hz_100 (by first | assumption | omega | rfl) hμ2 (by first | assumption | omega | rfl)) (cwV 2 hts (zz_gV (goodIn_of _ (by decide +kernel)) zg_c_X7_ofMachine) rfl rfl rfl (by decide +kernel) ⟨(by first | exact Nat.le_of_ble_eq_true rfl | omega), (by first | exact Nat.le_of_ble_eq_true rfl | omega)⟩) ⟨fun a U g mk q => by obtain ⟨q0, q1, qP, qK, qD⟩ := q; exact ⟨q0, q1, qP, va_K.moved (u := U) (U := U.calling g mk a) (Vm.Alike.refl U.vm) qK, qD⟩, va_recv hK hPc (ci := 6) (q0 := 0) rfl rfl, fun U hU hW => ⟨rfl, by rw [hU], by rw [hU]; exact hPc, va_K.moved hW.alike hK, hDc.weaken (fun _ _ _ _ => trivial)⟩⟩ rfl rfl hl.1 rfl (lv_room (by first | exact Nat.le_of_ble_eq_true rfl | omega)) dL_law_326 ⟨(by first | exact Nat.le_of_ble_eq_true rfl | omega), (by first | exact Nat.le_of_ble_eq_true rfl | omega)⟩) hS (fun q _ h => hFc q h) hFc (fun r_101 u t H1 locs ht hvm hw hB hz1 hk1 hS => ?_)
                obtain ⟨κ1_102, hz_103, hP1, hK1, hD1⟩ := hB
                rw [ht] at hP1
                obtain ⟨hP, hD⟩ := va_joinP (wr := []) (rx := []) (pl1 := (pq_WD cI cZ cM cT hh ms1_91 (gv + 1) tn1_92 tb κ1_102)) hP hD [] [] rfl rfl (by decide) (by decide) hk1 hFc hP1 hD1
                generalize H1 = H at hP hS ⊢
                have hP : va_P (dC, dI) vwCl ([] ++ (pq_WD cI cZ cM cT hh ms1_91 (gv + 1) tn1_92 tb κ1_102)) H := hP
                have hD : va_D A ([] ++ (pq_WD cI cZ cM cT hh ms1_91 (gv + 1) tn1_92 tb κ1_102)) := hD
                refine W.widen (k := k0) (n := n0) (by first | exact Nat.le_of_ble_eq_true rfl | omega) (by first | exact Nat.le_of_ble_eq_true rfl | omega) ?_
                obtain rfl : r_101 = zi (pq_om T q_2 (1 + q_86) (0 : Int) (3 : Int)) := hw
                refine pz_top (y := zi (1 + q_86)) (congrArg zi (rfl)) ?_
                refine lv_iload hx hb dL_law_329 (lv_at hl 1 rfl) ?_
                refine lv_icmp_ne (tgt := 350) hx hb dL_law_331 (by decide) (fun h => absurd (congrArg zi (show 1 + q_86 = 1 + q_86 from rfl)) h) (fun _ => ?_)
                refine lv_iload hx hb dL_law_334 (lv_at hl 0 rfl) ?_
                refine pz_if_ne (tgt := 352) hx hb (by omega) dL_law_336 (by decide) (fun c_104 => ?_) (fun c_104 => ?_)
                · refine lv_iload_n hx hb dL_law_352 rfl (lv_at hl 5 rfl) ?_
                  refine lv_iload hx hb dL_law_353 (lv_at hl 0 rfl) ?_
                  refine pz_if_ge (tgt := 362) hx hb (by omega) dL_law_355 (by decide) (fun c_105 => ?_) (fun c_105 => ?_)
                  · refine lv_iconst (v := zi 1) hx hb dL_law_362 (by decide) ?_
                    refine pz_iadd hx hb dL_law_363 ?_
                    refine pz_top (y := (zi (gv + 1))) (rfl) ?_
                    refine lv_istore_n (lv' := [(2, .int (zi (gv + 1))), (12, .int (zi 1)), (11, .int (zi (1 + q_86))), (10, .int (zi q_2)), (0, .ref b), (1, .ref hh), (3, .int (zi tn)), (4, .int (zi j)), (5, .int x9), (6, .int (zi (ms.length : Int))), (7, .int (zi w)), (8, .int (zi kk)), (9, .int (zi tb))]) hx hb dL_law_364 rfl hl (by decide) rfl (fun ls hl => ?_)
                    refine lv_iload_n hx hb dL_law_365 rfl (lv_at hl 6 rfl) ?_
                    refine lv_iload hx hb dL_law_366 (lv_at hl 1 rfl) ?_
                    refine lv_iconst (v := zi 1) hx hb dL_law_368 (by decide) ?_
                    refine pz_icmp_ne (tgt := 376) hx hb (by omega) dL_law_369 (by decide) (fun c_106 => ?_) (fun c_106 => ?_)
                    · exact absurd c_106 (by omega)
                    · refine lv_iconst (v := zi 1) hx hb dL_law_372 (by decide) ?_
                      refine lv_goto (tgt := 377) hx hb dL_law_373 (by decide) ?_
                      refine pz_iadd hx hb dL_law_377 ?_
                      refine pz_top (y := (zi tn1_92)) (congrArg zi (by rw [hm1.2])) ?_
                      refine lv_istore_n (lv' := [(3, .int (zi tn1_92)), (2, .int (zi (gv + 1))), (12, .int (zi 1)), (11, .int (zi (1 + q_86))), (10, .int (zi q_2)), (0, .ref b), (1, .ref hh), (4, .int (zi j)), (5, .int x9), (6, .int (zi (ms.length : Int))), (7, .int (zi w)), (8, .int (zi kk)), (9, .int (zi tb))]) hx hb dL_law_378 rfl hl (by decide) rfl (fun ls hl => ?_)
                      refine lv_goto (tgt := 752) hx hb dL_law_379 (by decide) ?_
                      exact K752 _ _ _ _ _ _ _ _ _ _ (by omega) (by omega) hms1 hlen1 hz_103 hP hD hS (lv_sub hl [5, 6, 1, 0, 7] rfl)
                  · exact absurd c_105 (by omega)
                · exact absurd c_104 (by omega)
            · exact (show False by omega).elim
          · exact absurd c_95 (by omega)
        · have hm1 := hm_94.2 hcq
          have hμ2 : ms1_91[w.toNat]? = some (am, aw, av, ax, T, -1, ka, kb) := by rw [hm1.1]; exact hμ1
          have hms1 : pq_mo ms1_91 := by rw [hm1.1]; exact hms
          have hlen1 : 1 ≤ ms1_91.length := by rw [hm1.1]; exact hlen
          refine pz_top (y := zi 0) (congrArg zi (pb_f hcq)) ?_
          refine lv_istore (lv' := [(12, .int (zi 0)), (11, .int (zi (1 + q_86))), (10, .int (zi q_2)), (0, .ref b), (1, .ref hh), (2, .int (zi gv)), (3, .int (zi tn)), (4, .int (zi j)), (5, .int x9), (6, .int (zi (ms.length : Int))), (7, .int (zi w)), (8, .int (zi kk)), (9, .int (zi tb))]) hx hb dL_law_279 hl (by decide) rfl (fun ls hl => ?_)
          refine lv_iload hx hb dL_law_281 (lv_at hl 0 rfl) ?_
          refine pz_if_ge (tgt := 290) hx hb (by omega) dL_law_283 (by decide) (fun c_107 => ?_) (fun c_107 => ?_)
          · refine lv_iconst (v := zi 0) hx hb dL_law_290 (by decide) ?_
            refine lv_iload hx hb dL_law_291 (lv_at hl 11 rfl) ?_
            refine pz_if_lt (tgt := 300) hx hb (by omega) dL_law_293 (by decide) (fun c_108 => ?_) (fun c_108 => ?_)
            · refine lv_iconst (v := zi 0) hx hb dL_law_300 (by decide) ?_
              refine lv_icmp_ne (tgt := 350) hx hb dL_law_301 (by decide) (fun h => absurd (congrArg zi (show (0 : Int) = (0 : Int) from rfl)) h) (fun _ => ?_)
              refine lv_iload hx hb dL_law_304 (lv_at hl 0 rfl) ?_
              refine lv_iconst (v := zi 1) hx hb dL_law_306 (by decide) ?_
              refine pz_icmp_ne (tgt := 334) hx hb (by omega) dL_law_307 (by decide) (fun c_109 => ?_) (fun c_109 => ?_)
              · refine lv_iload hx hb dL_law_334 (lv_at hl 0 rfl) ?_
                refine pz_if_ne (tgt := 352) hx hb (by omega) dL_law_336 (by decide) (fun c_110 => ?_) (fun c_110 => ?_)
                · exact absurd c_110 (by omega)
                · refine lv_aload_n hx hb dL_law_339 rfl (lv_at hl 4 rfl) ?_
                  refine lv_iload hx hb dL_law_340 (lv_at hl 10 rfl) ?_
                  refine lv_iconst (v := zi 2) hx hb dL_law_342 (by decide) ?_
                  have hPc := hP.part (cx := []) [] rfl
                  have hDc := hD.part (cx := []) [] (by decide) rfl
                  have hFc := va_freeP (cx := []) hD hS hA [] rfl
                  refine va_calli (va_runV (As := [.int (zi w), .int (zi 2)]) (rest := []) ⟨hx, hb, hml, hown, hts⟩ (c_X7_ofMachine l dC dI cI cZ cM cT H.size hh ms1_91 (gv + 1) tn1_92 tb κ1_90 w am aw av ax T (-1) ka kb 2 hms1 hz_93 (by first | assumption | omega | rfl) hμ2 (by first | assumption | omega | rfl)) (cwV 2 hts (zz_gV (goodIn_of _ (by decide +kernel)) zg_c_X7_ofMachine) rfl rfl rfl (by decide +kernel) ⟨(by first | exact Nat.le_of_ble_eq_true rfl | omega), (by first | exact Nat.le_of_ble_eq_true rfl | omega)⟩) ⟨fun a U g mk q => by obtain ⟨q0, q1, qP, qK, qD⟩ := q; exact ⟨q0, q1, qP, va_K.moved (u := U) (U := U.calling g mk a) (Vm.Alike.refl U.vm) qK, qD⟩, va_recv hK hPc (ci := 6) (q0 := 0) rfl rfl, fun U hU hW => ⟨rfl, by rw [hU], by rw [hU]; exact hPc, va_K.moved hW.alike hK, hDc.weaken (fun _ _ _ _ => trivial)⟩⟩ rfl rfl hl.1 rfl (lv_room (by first | exact Nat.le_of_ble_eq_true rfl | omega)) dL_law_343 ⟨(by first | exact Nat.le_of_ble_eq_true rfl | omega), (by first | exact Nat.le_of_ble_eq_true rfl | omega)⟩) hS (fun q _ h => hFc q h) hFc (fun r_111 u t H1 locs ht hvm hw hB hz1 hk1 hS => ?_)
                  obtain ⟨κ1_112, hz_113, hP1, hK1, hD1⟩ := hB
                  rw [ht] at hP1
                  obtain ⟨hP, hD⟩ := va_joinP (wr := []) (rx := []) (pl1 := (pq_WD cI cZ cM cT hh ms1_91 (gv + 1) tn1_92 tb κ1_112)) hP hD [] [] rfl rfl (by decide) (by decide) hk1 hFc hP1 hD1
                  generalize H1 = H at hP hS ⊢
                  have hP : va_P (dC, dI) vwCl ([] ++ (pq_WD cI cZ cM cT hh ms1_91 (gv + 1) tn1_92 tb κ1_112)) H := hP
                  have hD : va_D A ([] ++ (pq_WD cI cZ cM cT hh ms1_91 (gv + 1) tn1_92 tb κ1_112)) := hD
                  refine W.widen (k := k0) (n := n0) (by first | exact Nat.le_of_ble_eq_true rfl | omega) (by first | exact Nat.le_of_ble_eq_true rfl | omega) ?_
                  obtain rfl : r_111 = zi (pq_om T (-1) ka kb (2 : Int)) := hw
                  refine pz_top (y := zi (-1)) (congrArg zi (rfl)) ?_
                  refine lv_iconst (v := zi (-1)) hx hb dL_law_346 (by decide) ?_
                  refine lv_icmp_eq (tgt := 352) hx hb dL_law_347 (by decide) (fun _ => ?_) (fun h => absurd (congrArg zi (show (-1 : Int) = (-1 : Int) from rfl)) h)
                  refine lv_iload_n hx hb dL_law_352 rfl (lv_at hl 5 rfl) ?_
                  refine lv_iload hx hb dL_law_353 (lv_at hl 0 rfl) ?_
                  refine pz_if_ge (tgt := 362) hx hb (by omega) dL_law_355 (by decide) (fun c_114 => ?_) (fun c_114 => ?_)
                  · refine lv_iconst (v := zi 1) hx hb dL_law_362 (by decide) ?_
                    refine pz_iadd hx hb dL_law_363 ?_
                    refine pz_top (y := (zi (gv + 1))) (rfl) ?_
                    refine lv_istore_n (lv' := [(2, .int (zi (gv + 1))), (12, .int (zi 0)), (11, .int (zi (1 + q_86))), (10, .int (zi q_2)), (0, .ref b), (1, .ref hh), (3, .int (zi tn)), (4, .int (zi j)), (5, .int x9), (6, .int (zi (ms.length : Int))), (7, .int (zi w)), (8, .int (zi kk)), (9, .int (zi tb))]) hx hb dL_law_364 rfl hl (by decide) rfl (fun ls hl => ?_)
                    refine lv_iload_n hx hb dL_law_365 rfl (lv_at hl 6 rfl) ?_
                    refine lv_iload hx hb dL_law_366 (lv_at hl 1 rfl) ?_
                    refine lv_iconst (v := zi 1) hx hb dL_law_368 (by decide) ?_
                    refine pz_icmp_ne (tgt := 376) hx hb (by omega) dL_law_369 (by decide) (fun c_115 => ?_) (fun c_115 => ?_)
                    · refine lv_iconst (v := zi 0) hx hb dL_law_376 (by decide) ?_
                      refine pz_iadd hx hb dL_law_377 ?_
                      refine pz_top (y := (zi tn1_92)) (congrArg zi (by rw [hm1.2]; exact Int.add_zero _)) ?_
                      refine lv_istore_n (lv' := [(3, .int (zi tn1_92)), (2, .int (zi (gv + 1))), (12, .int (zi 0)), (11, .int (zi (1 + q_86))), (10, .int (zi q_2)), (0, .ref b), (1, .ref hh), (4, .int (zi j)), (5, .int x9), (6, .int (zi (ms.length : Int))), (7, .int (zi w)), (8, .int (zi kk)), (9, .int (zi tb))]) hx hb dL_law_378 rfl hl (by decide) rfl (fun ls hl => ?_)
                      refine lv_goto (tgt := 752) hx hb dL_law_379 (by decide) ?_
                      exact K752 _ _ _ _ _ _ _ _ _ _ (by omega) (by omega) hms1 hlen1 hz_113 hP hD hS (lv_sub hl [5, 6, 1, 0, 7] rfl)
                    · exact absurd c_115 (by omega)
                  · exact absurd c_114 (by omega)
              · exact absurd c_109 (by omega)
            · exact (show False by omega).elim
          · exact absurd c_107 (by omega)
      · have hPc := hP.part (cx := []) [] rfl
        have hDc := hD.part (cx := []) [] (by decide) rfl
        have hFc := va_freeP (cx := []) hD hS hA [] rfl
        have hZc := ((hZ.kept hS.2.1).narrow hFc)
        refine va_calli (vx_runSW (As := [.ref hh, .int (zi w), .int (zi q_2), .int (zi (1 + q_86)), .int (zi 0)]) (rest := []) ⟨hx, hb, hml, hown, hts⟩ (c_L_proveX l dC dI cI cZ cM cT hnt a0 H.size hh ms gv tn tb κ w am aw av ax T kk ka kb q_2 (1 + q_86) 0 (by first | assumption | omega | rfl) hκ (by first | assumption | omega | rfl) hμ (by first | assumption | omega | rfl) (by unfold pq_ic; omega)) (vx_cwSW 5 hts (zz_gS (goodIn_of _ (by decide +kernel)) zg_c_L_proveX) rfl rfl rfl (by decide +kernel) ⟨(by first | exact Nat.le_of_ble_eq_true rfl | omega), (by first | exact Nat.le_of_ble_eq_true rfl | omega)⟩) ⟨fun a U g mk q => by obtain ⟨q0, q1, qP, qK, qD, qZ⟩ := q; exact ⟨q0, q1, qP, va_K.moved (u := U) (U := U.calling g mk a) (Vm.Alike.refl U.vm) qK, qD, qZ.call⟩, fun U hU hW => ⟨rfl, by rw [hU], by rw [hU]; exact hPc, va_K.moved hW.alike hK, hDc.weaken (fun _ _ _ _ => trivial), by rw [hU]; exact hZc.warm hW⟩⟩ rfl rfl hl.1 rfl (lv_room (by first | exact Nat.le_of_ble_eq_true rfl | omega)) dL_law_276 ⟨(by first | exact Nat.le_of_ble_eq_true rfl | omega), (by first | exact Nat.le_of_ble_eq_true rfl | omega)⟩) hS (fun q _ h => hFc q h) hFc (fun r_116 u t H1 locs ht hvm hw hB hz1 hk1 hS => ?_)
        obtain ⟨hP1, hK1, hD1⟩ := hB
        rw [ht] at hP1
        obtain ⟨hP, hD⟩ := va_joinP (wr := []) (rx := []) (pl1 := (pq_WD cI cZ cM cT hh ms gv tn tb κ)) hP hD [] [] rfl rfl (by decide) (by decide) hk1 hFc hP1 hD1
        generalize H1 = H at hP hS ⊢
        have hP : va_P (dC, dI) vwCl ([] ++ (pq_WD cI cZ cM cT hh ms gv tn tb κ)) H := hP
        have hD : va_D A ([] ++ (pq_WD cI cZ cM cT hh ms gv tn tb κ)) := hD
        refine W.widen (k := (k0 + 1)) (n := (n0 + 6)) (by first | exact Nat.le_of_ble_eq_true rfl | omega) (by first | exact Nat.le_of_ble_eq_true rfl | omega) ?_
        obtain rfl : r_116 = zi (-1) := hw
        refine lv_istore (lv' := [(12, .int (zi (-1))), (11, .int (zi (1 + q_86))), (10, .int (zi q_2)), (0, .ref b), (1, .ref hh), (2, .int (zi gv)), (3, .int (zi tn)), (4, .int (zi j)), (5, .int x9), (6, .int (zi (ms.length : Int))), (7, .int (zi w)), (8, .int (zi kk)), (9, .int (zi tb))]) hx hb dL_law_279 hl (by decide) rfl (fun ls hl => ?_)
        refine lv_iload hx hb dL_law_281 (lv_at hl 0 rfl) ?_
        refine pz_if_ge (tgt := 290) hx hb (by omega) dL_law_283 (by decide) (fun c_117 => ?_) (fun c_117 => ?_)
        · exact absurd c_117 (by omega)
        · refine lv_iconst (v := zi 1) hx hb dL_law_286 (by decide) ?_
          refine lv_goto (tgt := 291) hx hb dL_law_287 (by decide) ?_
          refine lv_iload hx hb dL_law_291 (lv_at hl 11 rfl) ?_
          refine pz_if_lt (tgt := 300) hx hb (by omega) dL_law_293 (by decide) (fun c_118 => ?_) (fun c_118 => ?_)
          · exact (show False by omega).elim
          · refine lv_iconst (v := zi 1) hx hb dL_law_296 (by decide) ?_
            refine lv_goto (tgt := 301) hx hb dL_law_297 (by decide) ?_
            refine lv_icmp_ne (tgt := 350) hx hb dL_law_301 (by decide) (fun h => absurd (congrArg zi (show (1 : Int) = (1 : Int) from rfl)) h) (fun _ => ?_)
            refine lv_iload hx hb dL_law_304 (lv_at hl 0 rfl) ?_
            refine lv_iconst (v := zi 1) hx hb dL_law_306 (by decide) ?_
            refine pz_icmp_ne (tgt := 334) hx hb (by omega) dL_law_307 (by decide) (fun c_119 => ?_) (fun c_119 => ?_)
            · refine lv_iload hx hb dL_law_334 (lv_at hl 0 rfl) ?_
              refine pz_if_ne (tgt := 352) hx hb (by omega) dL_law_336 (by decide) (fun c_120 => ?_) (fun c_120 => ?_)
              · refine lv_iload_n hx hb dL_law_352 rfl (lv_at hl 5 rfl) ?_
                refine lv_iload hx hb dL_law_353 (lv_at hl 0 rfl) ?_
                refine pz_if_ge (tgt := 362) hx hb (by omega) dL_law_355 (by decide) (fun c_121 => ?_) (fun c_121 => ?_)
                · exact absurd c_121 (by omega)
                · refine lv_iconst (v := zi 0) hx hb dL_law_358 (by decide) ?_
                  refine lv_goto (tgt := 363) hx hb dL_law_359 (by decide) ?_
                  refine pz_iadd hx hb dL_law_363 ?_
                  refine pz_top (y := (zi gv)) (congrArg zi (Int.add_zero _)) ?_
                  refine lv_istore_n (lv' := [(2, .int (zi gv)), (12, .int (zi (-1))), (11, .int (zi (1 + q_86))), (10, .int (zi q_2)), (0, .ref b), (1, .ref hh), (3, .int (zi tn)), (4, .int (zi j)), (5, .int x9), (6, .int (zi (ms.length : Int))), (7, .int (zi w)), (8, .int (zi kk)), (9, .int (zi tb))]) hx hb dL_law_364 rfl hl (by decide) rfl (fun ls hl => ?_)
                  refine lv_iload_n hx hb dL_law_365 rfl (lv_at hl 6 rfl) ?_
                  refine lv_iload hx hb dL_law_366 (lv_at hl 1 rfl) ?_
                  refine lv_iconst (v := zi 1) hx hb dL_law_368 (by decide) ?_
                  refine pz_icmp_ne (tgt := 376) hx hb (by omega) dL_law_369 (by decide) (fun c_122 => ?_) (fun c_122 => ?_)
                  · refine lv_iconst (v := zi 0) hx hb dL_law_376 (by decide) ?_
                    refine pz_iadd hx hb dL_law_377 ?_
                    refine pz_top (y := (zi tn)) (congrArg zi (Int.add_zero _)) ?_
                    refine lv_istore_n (lv' := [(3, .int (zi tn)), (2, .int (zi gv)), (12, .int (zi (-1))), (11, .int (zi (1 + q_86))), (10, .int (zi q_2)), (0, .ref b), (1, .ref hh), (4, .int (zi j)), (5, .int x9), (6, .int (zi (ms.length : Int))), (7, .int (zi w)), (8, .int (zi kk)), (9, .int (zi tb))]) hx hb dL_law_378 rfl hl (by decide) rfl (fun ls hl => ?_)
                    refine lv_goto (tgt := 752) hx hb dL_law_379 (by decide) ?_
                    exact K752 _ _ _ _ _ _ _ _ _ _ (by omega) (by omega) hms hlen hκ hP hD hS (lv_sub hl [5, 6, 1, 0, 7] rfl)
                  · exact absurd c_122 (by omega)
              · exact absurd c_120 (by omega)
            · exact absurd c_119 (by omega)
    · exact (show False by omega).elim
