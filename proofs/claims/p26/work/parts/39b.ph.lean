set_option maxHeartbeats 4000000 in
set_option maxRecDepth 100000 in
theorem law_658 {p : Program} {l : Launch} {e : Env} {s : State} {m : MethodId} {below : List Frame} {meth : Method} {c : Code} {dC : Nat → ClassId} {dI : Nat → Nat → Nat} {cI cZ cM cT : ClassId} (hnt : l.stackTraces = false) {a0 b L hh : Nat} {xs : Nat → Int32} (hL : L ≤ 260) (C0 : lw_At p s m meth c b L xs) (hts : ∀ w ∈ zs_law, w.before #[Value.ref b] s = true) {A : Nat → Prop} (hA : ∀ q : Nat, s.heap.size ≤ q → A q) (hA2 : ∀ q : Nat, A q → s.heap.size ≤ q) (hZ : zB a0 A s s.heap) (hK : va_K (dC, dI) vwCl (zT4 cI cZ cM cT) s) {ms : List pq_M} {gv tn tb : Int} (hms : pq_mo ms) (hlen : 1 ≤ ms.length) {j : Int} (hj : 0 ≤ j ∧ j < 50) {k0 n0 : Nat} (hk0 : k0 ≤ 650 ∧ n0 ≤ 15500) (K752 : ∀ (ms : List pq_M) (gv tn tb : Int) (κ : pq_S) (k1 n1 : Nat) (H : Heap) (locs : List Loc) (ls : Array Slot), k1 ≤ k0 + 6 → n1 ≤ n0 + 40 → pq_mo ms → 1 ≤ ms.length → pq_Sok κ → va_P (dC, dI) vwCl ([] ++ (pq_WD cI cZ cM cT hh ms gv tn tb κ)) H → va_D A ([] ++ (pq_WD cI cZ cM cT hh ms gv tn tb κ)) → va_S A s.heap H locs → lv_has ls 14 [(0, .ref b), (1, .ref hh), (2, .int (zi gv)), (3, .int (zi tn)), (4, .int (zi j))] → W p l e room_1 s m #[Value.ref b] below meth c H locs k1 n1 (lw_Z below #[Value.ref b] s) (F0 m 752 ls [])) : ∀ (x9 : Int32) (w : Int) (am aw av ax : Nat) (T : pq_T) (kk ka kb : Int) (κ : pq_S) (H : Heap) (locs : List Loc) (ls : Array Slot), (0 ≤ w ∧ w < (ms.length : Int)) → ms[w.toNat]? = some (am, aw, av, ax, T, kk, ka, kb) → pq_Sok κ → va_P (dC, dI) vwCl ([] ++ (pq_WD cI cZ cM cT hh ms gv tn tb κ)) H → va_D A ([] ++ (pq_WD cI cZ cM cT hh ms gv tn tb κ)) → va_S A s.heap H locs → lv_has ls 14 [(0, .ref b), (1, .ref hh), (2, .int (zi gv)), (3, .int (zi tn)), (4, .int (zi j)), (5, .int x9), (6, .int (zi (ms.length : Int))), (7, .int (zi w)), (8, .int (zi kk)), (9, .int (zi tb))] → W p l e room_1 s m #[Value.ref b] below meth c H locs k0 n0 (lw_Z below #[Value.ref b] s) (F0 m 658 ls []) := by
  intro x9 w am aw av ax T kk ka kb κ H locs ls hw9 hμ hκ hP hD hS hl
  obtain ⟨hx, hb, hr, hml, hown, -, hX0, hbl, hlocks, hgv⟩ := id C0
  have hown : s.vm.findClass RL = some m.cls := hown
  have hX : zX A b L xs s s.heap := ⟨hX0, fun h => absurd (hA2 b h) (Nat.not_le.mpr hbl), hbl⟩
  have hR1 : 600000 ≤ room_1.cells := Nat.le_of_ble_eq_true rfl
  have hR2 : 7300000 ≤ room_1.slots := Nat.le_of_ble_eq_true rfl
  have hms12 := hms.1
  have hok : pq_ok T := (pq_mo_at hms hμ).1
  have hwr := pq_ways_rg hok
  have hnn := hok.1
  refine lv_aload_n hx hb dL_law_658 rfl (lv_at hl 1 rfl) ?_
  refine lv_iload hx hb dL_law_659 (lv_at hl 7 rfl) ?_
  refine lv_iconst (v := zi 5) hx hb dL_law_661 (by decide) ?_
  have hPc := hP.part (cx := []) [] rfl
  have hDc := hD.part (cx := []) [] (by decide) rfl
  have hFc := va_freeP (cx := []) hD hS hA [] rfl
  refine va_calli (va_runV (As := [.int (zi w), .int (zi 5)]) (rest := []) ⟨hx, hb, hml, hown, hts⟩ (c_X7_ofMachine l dC dI cI cZ cM cT H.size hh ms gv tn tb κ w am aw av ax T kk ka kb 5 (by first | assumption | omega | rfl) hκ (by first | assumption | omega | rfl) hμ (by first | assumption | omega | rfl)) (cwV 2 hts (zz_gV (goodIn_of _ (by decide +kernel)) zg_c_X7_ofMachine) rfl rfl rfl (by decide +kernel) ⟨(by first | exact Nat.le_of_ble_eq_true rfl | omega), (by first | exact Nat.le_of_ble_eq_true rfl | omega)⟩) ⟨fun a U g mk q => by obtain ⟨q0, q1, qP, qK, qD⟩ := q; exact ⟨q0, q1, qP, va_K.moved (u := U) (U := U.calling g mk a) (Vm.Alike.refl U.vm) qK, qD⟩, va_recv hK hPc (ci := 6) (q0 := 0) rfl rfl, fun U hU hW => ⟨rfl, by rw [hU], by rw [hU]; exact hPc, va_K.moved hW.alike hK, hDc.weaken (fun _ _ _ _ => trivial)⟩⟩ rfl rfl hl.1 rfl (lv_room (by first | exact Nat.le_of_ble_eq_true rfl | omega)) dL_law_662 ⟨(by first | exact Nat.le_of_ble_eq_true rfl | omega), (by first | exact Nat.le_of_ble_eq_true rfl | omega)⟩) hS (fun q _ h => hFc q h) hFc (fun r_1 u t H1 locs ht hvm hw hB hz1 hk1 hS => ?_)
  obtain ⟨κ1_2, hz_3, hP1, hK1, hD1⟩ := hB
  rw [ht] at hP1
  obtain ⟨hP, hD⟩ := va_joinP (wr := []) (rx := []) (pl1 := (pq_WD cI cZ cM cT hh ms gv tn tb κ1_2)) hP hD [] [] rfl rfl (by decide) (by decide) hk1 hFc hP1 hD1
  generalize H1 = H at hP hS ⊢
  have hP : va_P (dC, dI) vwCl ([] ++ (pq_WD cI cZ cM cT hh ms gv tn tb κ1_2)) H := hP
  have hD : va_D A ([] ++ (pq_WD cI cZ cM cT hh ms gv tn tb κ1_2)) := hD
  refine W.widen (k := k0) (n := n0) (by first | exact Nat.le_of_ble_eq_true rfl | omega) (by first | exact Nat.le_of_ble_eq_true rfl | omega) ?_
  obtain rfl : r_1 = zi (pq_om T kk ka kb (5 : Int)) := hw
  refine pz_top (y := zi (pq_ways T)) (congrArg zi (rfl)) ?_
  refine lv_istore (lv' := [(10, .int (zi (pq_ways T))), (0, .ref b), (1, .ref hh), (2, .int (zi gv)), (3, .int (zi tn)), (4, .int (zi j)), (5, .int x9), (6, .int (zi (ms.length : Int))), (7, .int (zi w)), (8, .int (zi kk)), (9, .int (zi tb))]) hx hb dL_law_665 hl (by decide) rfl (fun ls hl => ?_)
  refine lv_iload hx hb dL_law_667 (lv_at hl 7 rfl) ?_
  refine lv_bipush (v := zi 12) hx hb dL_law_669 (by decide) ?_
  refine pz_icmp_eq (tgt := 752) hx hb (by omega) dL_law_671 (by decide) (fun c_4 => ?_) (fun c_4 => ?_)
  · exact K752 _ _ _ _ _ _ _ _ _ _ (by omega) (by omega) hms hlen hz_3 hP hD hS (lv_sub hl [1, 2, 3, 4, 5] rfl)
  · refine lv_iload hx hb dL_law_674 (lv_at hl 0 rfl) ?_
    refine pz_if_ne (tgt := 682) hx hb (by omega) dL_law_676 (by decide) (fun c_5 => ?_) (fun c_5 => ?_)
    · refine lv_aload_n hx hb dL_law_682 rfl (lv_at hl 2 rfl) ?_
      refine lv_iload hx hb dL_law_683 (lv_at hl 8 rfl) ?_
      refine lv_iload hx hb dL_law_685 (lv_at hl 6 rfl) ?_
      refine lv_iconst (v := zi 3) hx hb dL_law_687 (by decide) ?_
      refine lv_ishr hx hb dL_law_688 ?_
      refine lv_iload hx hb dL_law_689 (lv_at hl 0 rfl) ?_
      have hPc := hP.sub (ws' := []) [] rfl
      have hDc := hD.sub (ws' := []) [] (by decide) rfl
      have hFc := va_free (wc := []) hD hS hA [] rfl
      refine va_calli (va_runS (As := [.int (x9 >>> ((zi 3) &&& 31)), .int (zi (pq_ways T))]) (rest := [.int (zi w), .ref hh]) ⟨hx, hb, hml, hown, hts⟩ (c_L_below l dC dI cI cZ cM cT H.size (x9 >>> ((zi 3) &&& 31)) (pq_ways T) (by first | assumption | omega | rfl)) (va_cwS 2 hts (zz_gS (goodIn_of _ (by decide +kernel)) zg_c_L_below) rfl rfl rfl (by decide +kernel) ⟨(by first | exact Nat.le_of_ble_eq_true rfl | omega), (by first | exact Nat.le_of_ble_eq_true rfl | omega)⟩) ⟨fun a U g mk q => by obtain ⟨q0, q1, qP, qK, qD⟩ := q; exact ⟨q0, q1, qP, va_K.moved (u := U) (U := U.calling g mk a) (Vm.Alike.refl U.vm) qK, qD⟩, fun U hU hW => ⟨rfl, by rw [hU], by rw [hU]; exact hPc, va_K.moved hW.alike hK, hDc.weaken (fun _ _ _ _ => trivial)⟩⟩ rfl rfl hl.1 rfl (lv_room (by first | exact Nat.le_of_ble_eq_true rfl | omega)) dL_law_691 ⟨(by first | exact Nat.le_of_ble_eq_true rfl | omega), (by first | exact Nat.le_of_ble_eq_true rfl | omega)⟩) hS (fun q _ h => hFc q h) hFc (fun r_6 u t H1 locs ht hvm hw hB hz1 hk1 hS => ?_)
      obtain ⟨hP1, hK1, hD1⟩ := hB
      rw [ht] at hP1
      obtain ⟨hP, hD⟩ := va_joinQ (wr := []) (w1 := []) (pl := (pq_WD cI cZ cM cT hh ms gv tn tb κ1_2)) hP hD [] [] rfl rfl (by decide) (by decide) hk1 hFc hP1 hD1
      generalize H1 = H at hP hS ⊢
      have hP : va_P (dC, dI) vwCl ([] ++ (pq_WD cI cZ cM cT hh ms gv tn tb κ1_2)) H := hP
      have hD : va_D A ([] ++ (pq_WD cI cZ cM cT hh ms gv tn tb κ1_2)) := hD
      refine W.widen (k := k0) (n := n0) (by first | exact Nat.le_of_ble_eq_true rfl | omega) (by first | exact Nat.le_of_ble_eq_true rfl | omega) ?_
      obtain ⟨q_7, rfl, hq_8⟩ := hw
      have hPc := hP.part (cx := []) [] rfl
      have hDc := hD.part (cx := []) [] (by decide) rfl
      have hFc := va_freeP (cx := []) hD hS hA [] rfl
      refine va_calli (va_runV (As := [.int (zi w), .int (zi q_7)]) (rest := []) ⟨hx, hb, hml, hown, hts⟩ (c_X7_child l dC dI cI cZ cM cT H.size hh ms gv tn tb κ1_2 w am aw av ax T kk ka kb q_7 (by first | assumption | omega | rfl) hz_3 (by first | assumption | omega | rfl) hμ (by first | assumption | omega | rfl) (by first | assumption | omega | rfl)) (cwV 2 hts (zz_gV (goodIn_of _ (by decide +kernel)) zg_c_X7_child) rfl rfl rfl (by decide +kernel) ⟨(by first | exact Nat.le_of_ble_eq_true rfl | omega), (by first | exact Nat.le_of_ble_eq_true rfl | omega)⟩) ⟨fun a U g mk q => by obtain ⟨q0, q1, qP, qK, qD⟩ := q; exact ⟨q0, q1, qP, va_K.moved (u := U) (U := U.calling g mk a) (Vm.Alike.refl U.vm) qK, qD⟩, va_recv hK hPc (ci := 6) (q0 := 0) rfl rfl, fun U hU hW => ⟨rfl, by rw [hU], by rw [hU]; exact hPc, va_K.moved hW.alike hK, hDc.weaken (fun _ _ _ _ => trivial)⟩⟩ rfl rfl hl.1 rfl (lv_room (by first | exact Nat.le_of_ble_eq_true rfl | omega)) dL_law_694 ⟨(by first | exact Nat.le_of_ble_eq_true rfl | omega), (by first | exact Nat.le_of_ble_eq_true rfl | omega)⟩) hS (fun q _ h => hFc q h) hFc (fun r_9 u t H1 locs ht hvm hw hB hz1 hk1 hS => ?_)
      obtain ⟨κ1_10, ms1_11, μ1_12, hz_13, hm_14, hP1, hK1, hD1⟩ := hB
      rw [ht] at hP1
      obtain ⟨hP, hD⟩ := va_joinP (wr := []) (rx := []) (pl1 := (pq_WD cI cZ cM cT hh ms1_11 gv tn tb κ1_10)) hP hD [] [] rfl rfl (by decide) (by decide) hk1 hFc hP1 hD1
      generalize H1 = H at hP hS ⊢
      have hP : va_P (dC, dI) vwCl ([] ++ (pq_WD cI cZ cM cT hh ms1_11 gv tn tb κ1_10)) H := hP
      have hD : va_D A ([] ++ (pq_WD cI cZ cM cT hh ms1_11 gv tn tb κ1_10)) := hD
      refine W.widen (k := (k0 + 4)) (n := (n0 + 31)) (by first | exact Nat.le_of_ble_eq_true rfl | omega) (by first | exact Nat.le_of_ble_eq_true rfl | omega) ?_
      obtain rfl : r_9 = zi (ms.length : Int) := hw
      obtain ⟨hm1, hm2, hm3, hm4⟩ := hm_14
      have hν : ms1_11[(ms.length : Int).toNat]? = some μ1_12 := by rw [hm1, Int.toNat_natCast, List.getElem?_append_right (Nat.le_refl _), Nat.sub_self]; rfl
      have hμ2 : ms1_11[w.toNat]? = some (am, aw, av, ax, T, kk, ka, kb) := by rw [hm1, List.getElem?_append_left (by omega)]; exact hμ
      obtain ⟨am2, aw2, av2, ax2, T2, k1_, k2_, k3_⟩ := μ1_12
      obtain ⟨rfl, rfl, rfl⟩ : k1_ = -1 ∧ k2_ = -1 ∧ k3_ = -1 := by cases hm2; exact ⟨rfl, rfl, rfl⟩
      have hms1 : pq_mo ms1_11 := by rw [hm1]; exact pq_mo_push hms (by omega) ⟨hm4, Or.inl ⟨rfl, rfl, rfl⟩⟩
      have hlen1 : 1 ≤ ms1_11.length := by rw [hm1, List.length_append]; omega
      have hn3 : pq_n T2 = pq_n T := hm3
      refine lv_iload hx hb dL_law_697 (lv_at hl 7 rfl) ?_
      refine lv_icmp_ne (tgt := 730) hx hb dL_law_699 (by decide) (fun h => absurd (congrArg zi (show (ms.length : Int) = (ms.length : Int) from rfl)) h) (fun _ => ?_)
      refine lv_aload_n hx hb dL_law_702 rfl (lv_at hl 2 rfl) ?_
      refine lv_iload hx hb dL_law_703 (lv_at hl 7 rfl) ?_
      refine lv_iconst (v := zi 2) hx hb dL_law_705 (by decide) ?_
      have hPc := hP.part (cx := []) [] rfl
      have hDc := hD.part (cx := []) [] (by decide) rfl
      have hFc := va_freeP (cx := []) hD hS hA [] rfl
      refine va_calli (va_runV (As := [.int (zi (ms.length : Int)), .int (zi 2)]) (rest := []) ⟨hx, hb, hml, hown, hts⟩ (c_X7_ofMachine l dC dI cI cZ cM cT H.size hh ms1_11 gv tn tb κ1_10 (ms.length : Int) am2 aw2 av2 ax2 T2 (-1) (-1) (-1) 2 hms1 hz_13 (by first | assumption | omega | rfl) hν (by first | assumption | omega | rfl)) (cwV 2 hts (zz_gV (goodIn_of _ (by decide +kernel)) zg_c_X7_ofMachine) rfl rfl rfl (by decide +kernel) ⟨(by first | exact Nat.le_of_ble_eq_true rfl | omega), (by first | exact Nat.le_of_ble_eq_true rfl | omega)⟩) ⟨fun a U g mk q => by obtain ⟨q0, q1, qP, qK, qD⟩ := q; exact ⟨q0, q1, qP, va_K.moved (u := U) (U := U.calling g mk a) (Vm.Alike.refl U.vm) qK, qD⟩, va_recv hK hPc (ci := 6) (q0 := 0) rfl rfl, fun U hU hW => ⟨rfl, by rw [hU], by rw [hU]; exact hPc, va_K.moved hW.alike hK, hDc.weaken (fun _ _ _ _ => trivial)⟩⟩ rfl rfl hl.1 rfl (lv_room (by first | exact Nat.le_of_ble_eq_true rfl | omega)) dL_law_706 ⟨(by first | exact Nat.le_of_ble_eq_true rfl | omega), (by first | exact Nat.le_of_ble_eq_true rfl | omega)⟩) hS (fun q _ h => hFc q h) hFc (fun r_15 u t H1 locs ht hvm hw hB hz1 hk1 hS => ?_)
      obtain ⟨κ1_16, hz_17, hP1, hK1, hD1⟩ := hB
      rw [ht] at hP1
      obtain ⟨hP, hD⟩ := va_joinP (wr := []) (rx := []) (pl1 := (pq_WD cI cZ cM cT hh ms1_11 gv tn tb κ1_16)) hP hD [] [] rfl rfl (by decide) (by decide) hk1 hFc hP1 hD1
      generalize H1 = H at hP hS ⊢
      have hP : va_P (dC, dI) vwCl ([] ++ (pq_WD cI cZ cM cT hh ms1_11 gv tn tb κ1_16)) H := hP
      have hD : va_D A ([] ++ (pq_WD cI cZ cM cT hh ms1_11 gv tn tb κ1_16)) := hD
      refine W.widen (k := (k0 + 4)) (n := (n0 + 31)) (by first | exact Nat.le_of_ble_eq_true rfl | omega) (by first | exact Nat.le_of_ble_eq_true rfl | omega) ?_
      obtain rfl : r_15 = zi (pq_om T2 (-1) (-1) (-1) (2 : Int)) := hw
      refine pz_top (y := zi (-1)) (congrArg zi (rfl)) ?_
      refine lv_iconst (v := zi (-1)) hx hb dL_law_709 (by decide) ?_
      refine lv_icmp_ne (tgt := 730) hx hb dL_law_710 (by decide) (fun h => absurd (congrArg zi (show (-1 : Int) = (-1 : Int) from rfl)) h) (fun _ => ?_)
      refine lv_aload_n hx hb dL_law_713 rfl (lv_at hl 2 rfl) ?_
      refine lv_iload hx hb dL_law_714 (lv_at hl 7 rfl) ?_
      refine lv_iconst (v := zi 0) hx hb dL_law_716 (by decide) ?_
      have hPc := hP.part (cx := []) [] rfl
      have hDc := hD.part (cx := []) [] (by decide) rfl
      have hFc := va_freeP (cx := []) hD hS hA [] rfl
      refine va_calli (va_runV (As := [.int (zi (ms.length : Int)), .int (zi 0)]) (rest := []) ⟨hx, hb, hml, hown, hts⟩ (c_X7_ofMachine l dC dI cI cZ cM cT H.size hh ms1_11 gv tn tb κ1_16 (ms.length : Int) am2 aw2 av2 ax2 T2 (-1) (-1) (-1) 0 hms1 hz_17 (by first | assumption | omega | rfl) hν (by first | assumption | omega | rfl)) (cwV 2 hts (zz_gV (goodIn_of _ (by decide +kernel)) zg_c_X7_ofMachine) rfl rfl rfl (by decide +kernel) ⟨(by first | exact Nat.le_of_ble_eq_true rfl | omega), (by first | exact Nat.le_of_ble_eq_true rfl | omega)⟩) ⟨fun a U g mk q => by obtain ⟨q0, q1, qP, qK, qD⟩ := q; exact ⟨q0, q1, qP, va_K.moved (u := U) (U := U.calling g mk a) (Vm.Alike.refl U.vm) qK, qD⟩, va_recv hK hPc (ci := 6) (q0 := 0) rfl rfl, fun U hU hW => ⟨rfl, by rw [hU], by rw [hU]; exact hPc, va_K.moved hW.alike hK, hDc.weaken (fun _ _ _ _ => trivial)⟩⟩ rfl rfl hl.1 rfl (lv_room (by first | exact Nat.le_of_ble_eq_true rfl | omega)) dL_law_717 ⟨(by first | exact Nat.le_of_ble_eq_true rfl | omega), (by first | exact Nat.le_of_ble_eq_true rfl | omega)⟩) hS (fun q _ h => hFc q h) hFc (fun r_18 u t H1 locs ht hvm hw hB hz1 hk1 hS => ?_)
      obtain ⟨κ1_19, hz_20, hP1, hK1, hD1⟩ := hB
      rw [ht] at hP1
      obtain ⟨hP, hD⟩ := va_joinP (wr := []) (rx := []) (pl1 := (pq_WD cI cZ cM cT hh ms1_11 gv tn tb κ1_19)) hP hD [] [] rfl rfl (by decide) (by decide) hk1 hFc hP1 hD1
      generalize H1 = H at hP hS ⊢
      have hP : va_P (dC, dI) vwCl ([] ++ (pq_WD cI cZ cM cT hh ms1_11 gv tn tb κ1_19)) H := hP
      have hD : va_D A ([] ++ (pq_WD cI cZ cM cT hh ms1_11 gv tn tb κ1_19)) := hD
      refine W.widen (k := (k0 + 4)) (n := (n0 + 31)) (by first | exact Nat.le_of_ble_eq_true rfl | omega) (by first | exact Nat.le_of_ble_eq_true rfl | omega) ?_
      obtain rfl : r_18 = zi (pq_om T2 (-1) (-1) (-1) (0 : Int)) := hw
      refine pz_top (y := zi (pq_n T)) (congrArg zi (hn3)) ?_
      refine lv_aload_n hx hb dL_law_720 rfl (lv_at hl 2 rfl) ?_
      refine lv_iload hx hb dL_law_721 (lv_at hl 8 rfl) ?_
      refine lv_iconst (v := zi 0) hx hb dL_law_723 (by decide) ?_
      have hPc := hP.part (cx := []) [] rfl
      have hDc := hD.part (cx := []) [] (by decide) rfl
      have hFc := va_freeP (cx := []) hD hS hA [] rfl
      refine va_calli (va_runV (As := [.int (zi w), .int (zi 0)]) (rest := [.int (zi (pq_n T))]) ⟨hx, hb, hml, hown, hts⟩ (c_X7_ofMachine l dC dI cI cZ cM cT H.size hh ms1_11 gv tn tb κ1_19 w am aw av ax T kk ka kb 0 hms1 hz_20 (by first | assumption | omega | rfl) hμ2 (by first | assumption | omega | rfl)) (cwV 2 hts (zz_gV (goodIn_of _ (by decide +kernel)) zg_c_X7_ofMachine) rfl rfl rfl (by decide +kernel) ⟨(by first | exact Nat.le_of_ble_eq_true rfl | omega), (by first | exact Nat.le_of_ble_eq_true rfl | omega)⟩) ⟨fun a U g mk q => by obtain ⟨q0, q1, qP, qK, qD⟩ := q; exact ⟨q0, q1, qP, va_K.moved (u := U) (U := U.calling g mk a) (Vm.Alike.refl U.vm) qK, qD⟩, va_recv hK hPc (ci := 6) (q0 := 0) rfl rfl, fun U hU hW => ⟨rfl, by rw [hU], by rw [hU]; exact hPc, va_K.moved hW.alike hK, hDc.weaken (fun _ _ _ _ => trivial)⟩⟩ rfl rfl hl.1 rfl (lv_room (by first | exact Nat.le_of_ble_eq_true rfl | omega)) dL_law_724 ⟨(by first | exact Nat.le_of_ble_eq_true rfl | omega), (by first | exact Nat.le_of_ble_eq_true rfl | omega)⟩) hS (fun q _ h => hFc q h) hFc (fun r_21 u t H1 locs ht hvm hw hB hz1 hk1 hS => ?_)
      obtain ⟨κ1_22, hz_23, hP1, hK1, hD1⟩ := hB
      rw [ht] at hP1
      obtain ⟨hP, hD⟩ := va_joinP (wr := []) (rx := []) (pl1 := (pq_WD cI cZ cM cT hh ms1_11 gv tn tb κ1_22)) hP hD [] [] rfl rfl (by decide) (by decide) hk1 hFc hP1 hD1
      generalize H1 = H at hP hS ⊢
      have hP : va_P (dC, dI) vwCl ([] ++ (pq_WD cI cZ cM cT hh ms1_11 gv tn tb κ1_22)) H := hP
      have hD : va_D A ([] ++ (pq_WD cI cZ cM cT hh ms1_11 gv tn tb κ1_22)) := hD
      refine W.widen (k := (k0 + 4)) (n := (n0 + 31)) (by first | exact Nat.le_of_ble_eq_true rfl | omega) (by first | exact Nat.le_of_ble_eq_true rfl | omega) ?_
      obtain rfl : r_21 = zi (pq_om T kk ka kb (0 : Int)) := hw
      refine pz_top (y := zi (pq_n T)) (congrArg zi (rfl)) ?_
      refine lv_icmp_eq (tgt := 752) hx hb dL_law_727 (by decide) (fun _ => ?_) (fun h => absurd (congrArg zi (show pq_n T = pq_n T from rfl)) h)
      exact K752 _ _ _ _ _ _ _ _ _ _ (by omega) (by omega) hms1 hlen1 hz_23 hP hD hS (lv_sub hl [1, 2, 3, 4, 5] rfl)
    · refine lv_goto (tgt := 752) hx hb dL_law_679 (by decide) ?_
      exact K752 _ _ _ _ _ _ _ _ _ _ (by omega) (by omega) hms hlen hz_3 hP hD hS (lv_sub hl [1, 2, 3, 4, 5] rfl)

set_option maxHeartbeats 4000000 in
set_option maxRecDepth 100000 in
theorem law_463 {p : Program} {l : Launch} {e : Env} {s : State} {m : MethodId} {below : List Frame} {meth : Method} {c : Code} {dC : Nat → ClassId} {dI : Nat → Nat → Nat} {cI cZ cM cT : ClassId} (hnt : l.stackTraces = false) {a0 b L hh : Nat} {xs : Nat → Int32} (hL : L ≤ 260) (C0 : lw_At p s m meth c b L xs) (hts : ∀ w ∈ zs_law, w.before #[Value.ref b] s = true) {A : Nat → Prop} (hA : ∀ q : Nat, s.heap.size ≤ q → A q) (hA2 : ∀ q : Nat, A q → s.heap.size ≤ q) (hZ : zB a0 A s s.heap) (hK : va_K (dC, dI) vwCl (zT4 cI cZ cM cT) s) {ms : List pq_M} {gv tn tb : Int} (hms : pq_mo ms) (hlen : 1 ≤ ms.length) {j : Int} (hj : 0 ≤ j ∧ j < 50) {k0 n0 : Nat} (hk0 : k0 ≤ 650 ∧ n0 ≤ 15500) (K752 : ∀ (ms : List pq_M) (gv tn tb : Int) (κ : pq_S) (k1 n1 : Nat) (H : Heap) (locs : List Loc) (ls : Array Slot), k1 ≤ k0 + 6 → n1 ≤ n0 + 40 → pq_mo ms → 1 ≤ ms.length → pq_Sok κ → va_P (dC, dI) vwCl ([] ++ (pq_WD cI cZ cM cT hh ms gv tn tb κ)) H → va_D A ([] ++ (pq_WD cI cZ cM cT hh ms gv tn tb κ)) → va_S A s.heap H locs → lv_has ls 14 [(0, .ref b), (1, .ref hh), (2, .int (zi gv)), (3, .int (zi tn)), (4, .int (zi j))] → W p l e room_1 s m #[Value.ref b] below meth c H locs k1 n1 (lw_Z below #[Value.ref b] s) (F0 m 752 ls [])) : ∀ (x9 : Int32) (w : Int) (am aw av ax : Nat) (T : pq_T) (kk ka kb : Int) (κ : pq_S) (H : Heap) (locs : List Loc) (ls : Array Slot), (0 ≤ w ∧ w < (ms.length : Int)) → ms[w.toNat]? = some (am, aw, av, ax, T, kk, ka, kb) → pq_Sok κ → va_P (dC, dI) vwCl ([] ++ (pq_WD cI cZ cM cT hh ms gv tn tb κ)) H → va_D A ([] ++ (pq_WD cI cZ cM cT hh ms gv tn tb κ)) → va_S A s.heap H locs → lv_has ls 14 [(0, .ref b), (1, .ref hh), (2, .int (zi gv)), (3, .int (zi tn)), (4, .int (zi j)), (5, .int x9), (6, .int (zi (ms.length : Int))), (7, .int (zi w)), (8, .int (zi kk)), (9, .int (zi tb))] → W p l e room_1 s m #[Value.ref b] below meth c H locs k0 n0 (lw_Z below #[Value.ref b] s) (F0 m 463 ls []) := by
  intro x9 w am aw av ax T kk ka kb κ H locs ls hw9 hμ hκ hP hD hS hl
  obtain ⟨hx, hb, hr, hml, hown, -, hX0, hbl, hlocks, hgv⟩ := id C0
  have hown : s.vm.findClass RL = some m.cls := hown
  have hX : zX A b L xs s s.heap := ⟨hX0, fun h => absurd (hA2 b h) (Nat.not_le.mpr hbl), hbl⟩
  have hR1 : 600000 ≤ room_1.cells := Nat.le_of_ble_eq_true rfl
  have hR2 : 7300000 ≤ room_1.slots := Nat.le_of_ble_eq_true rfl
  have hms12 := hms.1
  have hmk := pq_mo_at hms hμ
  have hkr := pq_mok_k hmk
  have hok : pq_ok T := hmk.1
  have hnn := hok.1
  refine lv_iload hx hb dL_law_463 (lv_at hl 5 rfl) ?_
  refine lv_iconst (v := zi 3) hx hb dL_law_465 (by decide) ?_
  refine lv_ishr hx hb dL_law_466 ?_
  refine lv_iconst (v := zi 2) hx hb dL_law_467 (by decide) ?_
  refine lv_aload_n hx hb dL_law_468 rfl (lv_at hl 1 rfl) ?_
  refine lv_iload hx hb dL_law_469 (lv_at hl 7 rfl) ?_
  refine lv_iconst (v := zi 0) hx hb dL_law_471 (by decide) ?_
  have hPc := hP.part (cx := []) [] rfl
  have hDc := hD.part (cx := []) [] (by decide) rfl
  have hFc := va_freeP (cx := []) hD hS hA [] rfl
  refine va_calli (va_runV (As := [.int (zi w), .int (zi 0)]) (rest := [.int (zi 2), .int (x9 >>> ((zi 3) &&& 31))]) ⟨hx, hb, hml, hown, hts⟩ (c_X7_ofMachine l dC dI cI cZ cM cT H.size hh ms gv tn tb κ w am aw av ax T kk ka kb 0 (by first | assumption | omega | rfl) hκ (by first | assumption | omega | rfl) hμ (by first | assumption | omega | rfl)) (cwV 2 hts (zz_gV (goodIn_of _ (by decide +kernel)) zg_c_X7_ofMachine) rfl rfl rfl (by decide +kernel) ⟨(by first | exact Nat.le_of_ble_eq_true rfl | omega), (by first | exact Nat.le_of_ble_eq_true rfl | omega)⟩) ⟨fun a U g mk q => by obtain ⟨q0, q1, qP, qK, qD⟩ := q; exact ⟨q0, q1, qP, va_K.moved (u := U) (U := U.calling g mk a) (Vm.Alike.refl U.vm) qK, qD⟩, va_recv hK hPc (ci := 6) (q0 := 0) rfl rfl, fun U hU hW => ⟨rfl, by rw [hU], by rw [hU]; exact hPc, va_K.moved hW.alike hK, hDc.weaken (fun _ _ _ _ => trivial)⟩⟩ rfl rfl hl.1 rfl (lv_room (by first | exact Nat.le_of_ble_eq_true rfl | omega)) dL_law_472 ⟨(by first | exact Nat.le_of_ble_eq_true rfl | omega), (by first | exact Nat.le_of_ble_eq_true rfl | omega)⟩) hS (fun q _ h => hFc q h) hFc (fun r_1 u t H1 locs ht hvm hw hB hz1 hk1 hS => ?_)
  obtain ⟨κ1_2, hz_3, hP1, hK1, hD1⟩ := hB
  rw [ht] at hP1
  obtain ⟨hP, hD⟩ := va_joinP (wr := []) (rx := []) (pl1 := (pq_WD cI cZ cM cT hh ms gv tn tb κ1_2)) hP hD [] [] rfl rfl (by decide) (by decide) hk1 hFc hP1 hD1
  generalize H1 = H at hP hS ⊢
  have hP : va_P (dC, dI) vwCl ([] ++ (pq_WD cI cZ cM cT hh ms gv tn tb κ1_2)) H := hP
  have hD : va_D A ([] ++ (pq_WD cI cZ cM cT hh ms gv tn tb κ1_2)) := hD
  refine W.widen (k := k0) (n := n0) (by first | exact Nat.le_of_ble_eq_true rfl | omega) (by first | exact Nat.le_of_ble_eq_true rfl | omega) ?_
  obtain rfl : r_1 = zi (pq_om T kk ka kb (0 : Int)) := hw
  refine pz_top (y := zi (pq_n T)) (congrArg zi (rfl)) ?_
  refine pz_imul hx hb dL_law_475 ?_
  have hPc := hP.sub (ws' := []) [] rfl
  have hDc := hD.sub (ws' := []) [] (by decide) rfl
  have hFc := va_free (wc := []) hD hS hA [] rfl
  refine va_calli (va_runS (As := [.int (x9 >>> ((zi 3) &&& 31)), .int (zi (2 * (pq_n T)))]) (rest := []) ⟨hx, hb, hml, hown, hts⟩ (c_L_below l dC dI cI cZ cM cT H.size (x9 >>> ((zi 3) &&& 31)) (2 * (pq_n T)) (by first | assumption | omega | rfl)) (va_cwS 2 hts (zz_gS (goodIn_of _ (by decide +kernel)) zg_c_L_below) rfl rfl rfl (by decide +kernel) ⟨(by first | exact Nat.le_of_ble_eq_true rfl | omega), (by first | exact Nat.le_of_ble_eq_true rfl | omega)⟩) ⟨fun a U g mk q => by obtain ⟨q0, q1, qP, qK, qD⟩ := q; exact ⟨q0, q1, qP, va_K.moved (u := U) (U := U.calling g mk a) (Vm.Alike.refl U.vm) qK, qD⟩, fun U hU hW => ⟨rfl, by rw [hU], by rw [hU]; exact hPc, va_K.moved hW.alike hK, hDc.weaken (fun _ _ _ _ => trivial)⟩⟩ rfl rfl hl.1 rfl (lv_room (by first | exact Nat.le_of_ble_eq_true rfl | omega)) dL_law_476 ⟨(by first | exact Nat.le_of_ble_eq_true rfl | omega), (by first | exact Nat.le_of_ble_eq_true rfl | omega)⟩) hS (fun q _ h => hFc q h) hFc (fun r_4 u t H1 locs ht hvm hw hB hz1 hk1 hS => ?_)
  obtain ⟨hP1, hK1, hD1⟩ := hB
  rw [ht] at hP1
  obtain ⟨hP, hD⟩ := va_joinQ (wr := []) (w1 := []) (pl := (pq_WD cI cZ cM cT hh ms gv tn tb κ1_2)) hP hD [] [] rfl rfl (by decide) (by decide) hk1 hFc hP1 hD1
  generalize H1 = H at hP hS ⊢
  have hP : va_P (dC, dI) vwCl ([] ++ (pq_WD cI cZ cM cT hh ms gv tn tb κ1_2)) H := hP
  have hD : va_D A ([] ++ (pq_WD cI cZ cM cT hh ms gv tn tb κ1_2)) := hD
  refine W.widen (k := k0) (n := n0) (by first | exact Nat.le_of_ble_eq_true rfl | omega) (by first | exact Nat.le_of_ble_eq_true rfl | omega) ?_
  obtain ⟨q_5, rfl, hq_6⟩ := hw
  have hq2 : 2 * (q_5 / 2) + q_5 % 2 = q_5 := by omega
  have hcar := pq_ca_rg0 hok q_5
  refine lv_istore (lv' := [(10, .int (zi q_5)), (0, .ref b), (1, .ref hh), (2, .int (zi gv)), (3, .int (zi tn)), (4, .int (zi j)), (5, .int x9), (6, .int (zi (ms.length : Int))), (7, .int (zi w)), (8, .int (zi kk)), (9, .int (zi tb))]) hx hb dL_law_479 hl (by decide) rfl (fun ls hl => ?_)
  refine lv_aload_n hx hb dL_law_481 rfl (lv_at hl 2 rfl) ?_
  refine lv_iload hx hb dL_law_482 (lv_at hl 8 rfl) ?_
  refine lv_iload hx hb dL_law_484 (lv_at hl 0 rfl) ?_
  refine lv_iconst (v := zi 2) hx hb dL_law_486 (by decide) ?_
  refine pz_idiv hx hb (by omega) dL_law_487 ?_
  refine lv_iload hx hb dL_law_488 (lv_at hl 0 rfl) ?_
  refine lv_iconst (v := zi 2) hx hb dL_law_490 (by decide) ?_
  refine pz_irem hx hb (by omega) dL_law_491 ?_
  refine lv_iconst (v := zi 0) hx hb dL_law_492 (by decide) ?_
  have hPc := hP.part (cx := []) [] rfl
  have hDc := hD.part (cx := []) [] (by decide) rfl
  have hFc := va_freeP (cx := []) hD hS hA [] rfl
  refine va_calli (va_runV (As := [.int (zi w), .int (zi (q_5 / 2)), .int (zi (q_5 % 2)), .int (zi 0)]) (rest := []) ⟨hx, hb, hml, hown, hts⟩ (c_X7_cell l dC dI cI cZ cM cT H.size hh ms gv tn tb κ1_2 w am aw av ax T kk ka kb (q_5 / 2) (q_5 % 2) 0 (by first | assumption | omega | rfl) hz_3 (by first | assumption | omega | rfl) hμ (by omega) (by first | assumption | omega | rfl) (by first | assumption | omega | rfl)) (cwV 4 hts (zz_gV (goodIn_of _ (by decide +kernel)) zg_c_X7_cell) rfl rfl rfl (by decide +kernel) ⟨(by first | exact Nat.le_of_ble_eq_true rfl | omega), (by first | exact Nat.le_of_ble_eq_true rfl | omega)⟩) ⟨fun a U g mk q => by obtain ⟨q0, q1, qP, qK, qD⟩ := q; exact ⟨q0, q1, qP, va_K.moved (u := U) (U := U.calling g mk a) (Vm.Alike.refl U.vm) qK, qD⟩, va_recv hK hPc (ci := 6) (q0 := 0) rfl rfl, fun U hU hW => ⟨rfl, by rw [hU], by rw [hU]; exact hPc, va_K.moved hW.alike hK, hDc.weaken (fun _ _ _ _ => trivial)⟩⟩ rfl rfl hl.1 rfl (lv_room (by first | exact Nat.le_of_ble_eq_true rfl | omega)) dL_law_493 ⟨(by first | exact Nat.le_of_ble_eq_true rfl | omega), (by first | exact Nat.le_of_ble_eq_true rfl | omega)⟩) hS (fun q _ h => hFc q h) hFc (fun r_7 u t H1 locs ht hvm hw hB hz1 hk1 hS => ?_)
  obtain ⟨κ1_8, hz_9, hP1, hK1, hD1⟩ := hB
  rw [ht] at hP1
  obtain ⟨hP, hD⟩ := va_joinP (wr := []) (rx := []) (pl1 := (pq_WD cI cZ cM cT hh ms gv tn tb κ1_8)) hP hD [] [] rfl rfl (by decide) (by decide) hk1 hFc hP1 hD1
  generalize H1 = H at hP hS ⊢
  have hP : va_P (dC, dI) vwCl ([] ++ (pq_WD cI cZ cM cT hh ms gv tn tb κ1_8)) H := hP
  have hD : va_D A ([] ++ (pq_WD cI cZ cM cT hh ms gv tn tb κ1_8)) := hD
  refine W.widen (k := k0) (n := n0) (by first | exact Nat.le_of_ble_eq_true rfl | omega) (by first | exact Nat.le_of_ble_eq_true rfl | omega) ?_
  obtain rfl : r_7 = zi (pq_ca T (2 * (q_5 / 2) + (q_5 % 2)) (0 : Int)) := hw
  refine pz_top (y := zi (pq_ca T q_5 0)) (congrArg zi (by rw [hq2])) ?_
  refine pz_if_ge (tgt := 503) hx hb (by omega) dL_law_496 (by decide) (fun c_10 => ?_) (fun c_10 => ?_)
  · refine lv_iconst (v := zi 0) hx hb dL_law_503 (by decide) ?_
    have hE : ¬ pq_E T q_5 := fun h => by have h9 := c_10; rw [pq_ca_E h] at h9; omega
    refine lv_istore (lv' := [(11, .int (zi 0)), (10, .int (zi q_5)), (0, .ref b), (1, .ref hh), (2, .int (zi gv)), (3, .int (zi tn)), (4, .int (zi j)), (5, .int x9), (6, .int (zi (ms.length : Int))), (7, .int (zi w)), (8, .int (zi kk)), (9, .int (zi tb))]) hx hb dL_law_504 hl (by decide) rfl (fun ls hl => ?_)
    refine lv_iload hx hb dL_law_506 (lv_at hl 7 rfl) ?_
    refine lv_iconst (v := zi 5) hx hb dL_law_508 (by decide) ?_
    refine lv_ishr hx hb dL_law_509 ?_
    refine lv_aload_n hx hb dL_law_510 rfl (lv_at hl 3 rfl) ?_
    refine lv_iload hx hb dL_law_511 (lv_at hl 9 rfl) ?_
    refine lv_iconst (v := zi 0) hx hb dL_law_513 (by decide) ?_
    have hPc := hP.part (cx := []) [] rfl
    have hDc := hD.part (cx := []) [] (by decide) rfl
    have hFc := va_freeP (cx := []) hD hS hA [] rfl
    refine va_calli (va_runV (As := [.int (zi w), .int (zi 0)]) (rest := [.int (x9 >>> ((zi 5) &&& 31))]) ⟨hx, hb, hml, hown, hts⟩ (c_X7_ofMachine l dC dI cI cZ cM cT H.size hh ms gv tn tb κ1_8 w am aw av ax T kk ka kb 0 (by first | assumption | omega | rfl) hz_9 (by first | assumption | omega | rfl) hμ (by first | assumption | omega | rfl)) (cwV 2 hts (zz_gV (goodIn_of _ (by decide +kernel)) zg_c_X7_ofMachine) rfl rfl rfl (by decide +kernel) ⟨(by first | exact Nat.le_of_ble_eq_true rfl | omega), (by first | exact Nat.le_of_ble_eq_true rfl | omega)⟩) ⟨fun a U g mk q => by obtain ⟨q0, q1, qP, qK, qD⟩ := q; exact ⟨q0, q1, qP, va_K.moved (u := U) (U := U.calling g mk a) (Vm.Alike.refl U.vm) qK, qD⟩, va_recv hK hPc (ci := 6) (q0 := 0) rfl rfl, fun U hU hW => ⟨rfl, by rw [hU], by rw [hU]; exact hPc, va_K.moved hW.alike hK, hDc.weaken (fun _ _ _ _ => trivial)⟩⟩ rfl rfl hl.1 rfl (lv_room (by first | exact Nat.le_of_ble_eq_true rfl | omega)) dL_law_514 ⟨(by first | exact Nat.le_of_ble_eq_true rfl | omega), (by first | exact Nat.le_of_ble_eq_true rfl | omega)⟩) hS (fun q _ h => hFc q h) hFc (fun r_11 u t H1 locs ht hvm hw hB hz1 hk1 hS => ?_)
    obtain ⟨κ1_12, hz_13, hP1, hK1, hD1⟩ := hB
    rw [ht] at hP1
    obtain ⟨hP, hD⟩ := va_joinP (wr := []) (rx := []) (pl1 := (pq_WD cI cZ cM cT hh ms gv tn tb κ1_12)) hP hD [] [] rfl rfl (by decide) (by decide) hk1 hFc hP1 hD1
    generalize H1 = H at hP hS ⊢
    have hP : va_P (dC, dI) vwCl ([] ++ (pq_WD cI cZ cM cT hh ms gv tn tb κ1_12)) H := hP
    have hD : va_D A ([] ++ (pq_WD cI cZ cM cT hh ms gv tn tb κ1_12)) := hD
    refine W.widen (k := k0) (n := n0) (by first | exact Nat.le_of_ble_eq_true rfl | omega) (by first | exact Nat.le_of_ble_eq_true rfl | omega) ?_
    obtain rfl : r_11 = zi (pq_om T kk ka kb (0 : Int)) := hw
    refine pz_top (y := zi (pq_n T)) (congrArg zi (rfl)) ?_
    refine lv_iconst (v := zi 1) hx hb dL_law_517 (by decide) ?_
    refine pz_iadd hx hb dL_law_518 ?_
    have hPc := hP.sub (ws' := []) [] rfl
    have hDc := hD.sub (ws' := []) [] (by decide) rfl
    have hFc := va_free (wc := []) hD hS hA [] rfl
    refine va_calli (va_runS (As := [.int (x9 >>> ((zi 5) &&& 31)), .int (zi ((pq_n T) + 1))]) (rest := []) ⟨hx, hb, hml, hown, hts⟩ (c_L_below l dC dI cI cZ cM cT H.size (x9 >>> ((zi 5) &&& 31)) ((pq_n T) + 1) (by first | assumption | omega | rfl)) (va_cwS 2 hts (zz_gS (goodIn_of _ (by decide +kernel)) zg_c_L_below) rfl rfl rfl (by decide +kernel) ⟨(by first | exact Nat.le_of_ble_eq_true rfl | omega), (by first | exact Nat.le_of_ble_eq_true rfl | omega)⟩) ⟨fun a U g mk q => by obtain ⟨q0, q1, qP, qK, qD⟩ := q; exact ⟨q0, q1, qP, va_K.moved (u := U) (U := U.calling g mk a) (Vm.Alike.refl U.vm) qK, qD⟩, fun U hU hW => ⟨rfl, by rw [hU], by rw [hU]; exact hPc, va_K.moved hW.alike hK, hDc.weaken (fun _ _ _ _ => trivial)⟩⟩ rfl rfl hl.1 rfl (lv_room (by first | exact Nat.le_of_ble_eq_true rfl | omega)) dL_law_519 ⟨(by first | exact Nat.le_of_ble_eq_true rfl | omega), (by first | exact Nat.le_of_ble_eq_true rfl | omega)⟩) hS (fun q _ h => hFc q h) hFc (fun r_14 u t H1 locs ht hvm hw hB hz1 hk1 hS => ?_)
    obtain ⟨hP1, hK1, hD1⟩ := hB
    rw [ht] at hP1
    obtain ⟨hP, hD⟩ := va_joinQ (wr := []) (w1 := []) (pl := (pq_WD cI cZ cM cT hh ms gv tn tb κ1_12)) hP hD [] [] rfl rfl (by decide) (by decide) hk1 hFc hP1 hD1
    generalize H1 = H at hP hS ⊢
    have hP : va_P (dC, dI) vwCl ([] ++ (pq_WD cI cZ cM cT hh ms gv tn tb κ1_12)) H := hP
    have hD : va_D A ([] ++ (pq_WD cI cZ cM cT hh ms gv tn tb κ1_12)) := hD
    refine W.widen (k := k0) (n := n0) (by first | exact Nat.le_of_ble_eq_true rfl | omega) (by first | exact Nat.le_of_ble_eq_true rfl | omega) ?_
    obtain ⟨q_15, rfl, hq_16⟩ := hw
    refine lv_istore (lv' := [(12, .int (zi q_15)), (11, .int (zi 0)), (10, .int (zi q_5)), (0, .ref b), (1, .ref hh), (2, .int (zi gv)), (3, .int (zi tn)), (4, .int (zi j)), (5, .int x9), (6, .int (zi (ms.length : Int))), (7, .int (zi w)), (8, .int (zi kk)), (9, .int (zi tb))]) hx hb dL_law_522 hl (by decide) rfl (fun ls hl => ?_)
    refine lv_iload hx hb dL_law_524 (lv_at hl 8 rfl) ?_
    refine lv_bipush (v := zi 6) hx hb dL_law_526 (by decide) ?_
    refine lv_ishr hx hb dL_law_528 ?_
    refine lv_iconst (v := zi 2) hx hb dL_law_529 (by decide) ?_
    have hPc := hP.sub (ws' := []) [] rfl
    have hDc := hD.sub (ws' := []) [] (by decide) rfl
    have hFc := va_free (wc := []) hD hS hA [] rfl
    refine va_calli (va_runS (As := [.int (x9 >>> ((zi 6) &&& 31)), .int (zi 2)]) (rest := []) ⟨hx, hb, hml, hown, hts⟩ (c_L_below l dC dI cI cZ cM cT H.size (x9 >>> ((zi 6) &&& 31)) 2 (by first | assumption | omega | rfl)) (va_cwS 2 hts (zz_gS (goodIn_of _ (by decide +kernel)) zg_c_L_below) rfl rfl rfl (by decide +kernel) ⟨(by first | exact Nat.le_of_ble_eq_true rfl | omega), (by first | exact Nat.le_of_ble_eq_true rfl | omega)⟩) ⟨fun a U g mk q => by obtain ⟨q0, q1, qP, qK, qD⟩ := q; exact ⟨q0, q1, qP, va_K.moved (u := U) (U := U.calling g mk a) (Vm.Alike.refl U.vm) qK, qD⟩, fun U hU hW => ⟨rfl, by rw [hU], by rw [hU]; exact hPc, va_K.moved hW.alike hK, hDc.weaken (fun _ _ _ _ => trivial)⟩⟩ rfl rfl hl.1 rfl (lv_room (by first | exact Nat.le_of_ble_eq_true rfl | omega)) dL_law_530 ⟨(by first | exact Nat.le_of_ble_eq_true rfl | omega), (by first | exact Nat.le_of_ble_eq_true rfl | omega)⟩) hS (fun q _ h => hFc q h) hFc (fun r_17 u t H1 locs ht hvm hw hB hz1 hk1 hS => ?_)
    obtain ⟨hP1, hK1, hD1⟩ := hB
    rw [ht] at hP1
    obtain ⟨hP, hD⟩ := va_joinQ (wr := []) (w1 := []) (pl := (pq_WD cI cZ cM cT hh ms gv tn tb κ1_12)) hP hD [] [] rfl rfl (by decide) (by decide) hk1 hFc hP1 hD1
    generalize H1 = H at hP hS ⊢
    have hP : va_P (dC, dI) vwCl ([] ++ (pq_WD cI cZ cM cT hh ms gv tn tb κ1_12)) H := hP
    have hD : va_D A ([] ++ (pq_WD cI cZ cM cT hh ms gv tn tb κ1_12)) := hD
    refine W.widen (k := k0) (n := n0) (by first | exact Nat.le_of_ble_eq_true rfl | omega) (by first | exact Nat.le_of_ble_eq_true rfl | omega) ?_
    obtain ⟨q_18, rfl, hq_19⟩ := hw
    refine lv_istore (lv' := [(13, .int (zi q_18)), (12, .int (zi q_15)), (11, .int (zi 0)), (10, .int (zi q_5)), (0, .ref b), (1, .ref hh), (2, .int (zi gv)), (3, .int (zi tn)), (4, .int (zi j)), (5, .int x9), (6, .int (zi (ms.length : Int))), (7, .int (zi w)), (8, .int (zi kk)), (9, .int (zi tb))]) hx hb dL_law_533 hl (by decide) rfl (fun ls hl => ?_)
    refine lv_iload hx hb dL_law_535 (lv_at hl 2 rfl) ?_
    refine pz_if_eq (tgt := 563) hx hb (by omega) dL_law_537 (by decide) (fun c_20 => ?_) (fun c_20 => ?_)
    · refine lv_aload_n hx hb dL_law_563 rfl (lv_at hl 5 rfl) ?_
      refine lv_iload hx hb dL_law_564 (lv_at hl 11 rfl) ?_
      refine lv_iload hx hb dL_law_566 (lv_at hl 3 rfl) ?_
      refine lv_iconst (v := zi 2) hx hb dL_law_568 (by decide) ?_
      refine pz_idiv hx hb (by omega) dL_law_569 ?_
      refine lv_iload hx hb dL_law_570 (lv_at hl 3 rfl) ?_
      refine lv_iconst (v := zi 2) hx hb dL_law_572 (by decide) ?_
      refine pz_irem hx hb (by omega) dL_law_573 ?_
      refine lv_iload hx hb dL_law_574 (lv_at hl 0 rfl) ?_
      refine lv_iconst (v := zi (-1)) hx hb dL_law_576 (by decide) ?_
      refine lv_iload hx hb dL_law_577 (lv_at hl 1 rfl) ?_
      have hPc := hP.part (cx := []) [] rfl
      have hDc := hD.part (cx := []) [] (by decide) rfl
      have hFc := va_freeP (cx := []) hD hS hA [] rfl
      refine va_calli (va_runV (As := [.int (zi w), .int (zi (q_5 / 2)), .int (zi (q_5 % 2)), .int (zi q_18), .int (zi (-1)), .int (zi q_15)]) (rest := []) ⟨hx, hb, hml, hown, hts⟩ (c_X7_amend l dC dI cI cZ cM cT H.size hh ms gv tn tb κ1_12 w am aw av ax T kk ka kb (q_5 / 2) (q_5 % 2) q_18 (-1) q_15 (by first | assumption | omega | rfl) hz_13 (by first | assumption | omega | rfl) hμ (by first | assumption | omega | rfl) (by first | assumption | omega | rfl) (by first | assumption | omega | rfl) (by first | assumption | omega | rfl) (by first | assumption | omega | rfl) (by rw [hq2]; exact hE)) (cwV 6 hts (zz_gV (goodIn_of _ (by decide +kernel)) zg_c_X7_amend) rfl rfl rfl (by decide +kernel) ⟨(by first | exact Nat.le_of_ble_eq_true rfl | omega), (by first | exact Nat.le_of_ble_eq_true rfl | omega)⟩) ⟨fun a U g mk q => by obtain ⟨q0, q1, qP, qK, qD⟩ := q; exact ⟨q0, q1, qP, va_K.moved (u := U) (U := U.calling g mk a) (Vm.Alike.refl U.vm) qK, qD⟩, va_recv hK hPc (ci := 6) (q0 := 0) rfl rfl, fun U hU hW => ⟨rfl, by rw [hU], by rw [hU]; exact hPc, va_K.moved hW.alike hK, hDc.weaken (fun _ _ _ _ => trivial)⟩⟩ rfl rfl hl.1 rfl (lv_room (by first | exact Nat.le_of_ble_eq_true rfl | omega)) dL_law_579 ⟨(by first | exact Nat.le_of_ble_eq_true rfl | omega), (by first | exact Nat.le_of_ble_eq_true rfl | omega)⟩) hS (fun q _ h => hFc q h) hFc (fun r_21 u t H1 locs ht hvm hw hB hz1 hk1 hS => ?_)
      obtain ⟨tb1_22, κ1_23, ms1_24, hz_25, ht_26, hm_27, hP1, hK1, hD1⟩ := hB
      rw [ht] at hP1
      obtain ⟨hP, hD⟩ := va_joinP (wr := []) (rx := []) (pl1 := (pq_WD cI cZ cM cT hh ms1_24 gv tn tb1_22 κ1_23)) hP hD [] [] rfl rfl (by decide) (by decide) hk1 hFc hP1 hD1
      generalize H1 = H at hP hS ⊢
      have hP : va_P (dC, dI) vwCl ([] ++ (pq_WD cI cZ cM cT hh ms1_24 gv tn tb1_22 κ1_23)) H := hP
      have hD : va_D A ([] ++ (pq_WD cI cZ cM cT hh ms1_24 gv tn tb1_22 κ1_23)) := hD
      refine W.widen (k := k0) (n := n0) (by first | exact Nat.le_of_ble_eq_true rfl | omega) (by first | exact Nat.le_of_ble_eq_true rfl | omega) ?_
      obtain rfl : r_21 = zi (pb (¬ kk = -1)) := hw
      refine lv_pop hx hb dL_law_582 rfl ?_
      have hm1 := hm_27
      rw [hq2] at hm1
      have hμ2 : ms1_24[w.toNat]? = some (am, aw, av, ax, (pq_fl T q_5.toNat q_18 (-1) q_15), -1, -1, -1) := by rw [hm1, List.getElem?_set_self (by omega)]
      have hok2 : pq_ok (pq_fl T q_5.toNat q_18 (-1) q_15) := pq_ok_fl hok (by omega) (by omega) (by decide) (by omega)
      have hms1 : pq_mo ms1_24 := by rw [hm1]; exact pq_mo_set hms ⟨hok2, Or.inl ⟨rfl, rfl, rfl⟩⟩
      have hlen1 : 1 ≤ ms1_24.length := by rw [hm1, List.length_set]; exact hlen
      refine lv_aload_n hx hb dL_law_583 rfl (lv_at hl 5 rfl) ?_
      refine lv_iload hx hb dL_law_584 (lv_at hl 11 rfl) ?_
      refine lv_iconst (v := zi 2) hx hb dL_law_586 (by decide) ?_
      have hPc := hP.part (cx := []) [] rfl
      have hDc := hD.part (cx := []) [] (by decide) rfl
      have hFc := va_freeP (cx := []) hD hS hA [] rfl
      refine va_calli (va_runV (As := [.int (zi w), .int (zi 2)]) (rest := []) ⟨hx, hb, hml, hown, hts⟩ (c_X7_ofMachine l dC dI cI cZ cM cT H.size hh ms1_24 gv tn tb1_22 κ1_23 w am aw av ax (pq_fl T q_5.toNat q_18 (-1) q_15) (-1) (-1) (-1) 2 hms1 hz_25 (by first | assumption | omega | rfl) hμ2 (by first | assumption | omega | rfl)) (cwV 2 hts (zz_gV (goodIn_of _ (by decide +kernel)) zg_c_X7_ofMachine) rfl rfl rfl (by decide +kernel) ⟨(by first | exact Nat.le_of_ble_eq_true rfl | omega), (by first | exact Nat.le_of_ble_eq_true rfl | omega)⟩) ⟨fun a U g mk q => by obtain ⟨q0, q1, qP, qK, qD⟩ := q; exact ⟨q0, q1, qP, va_K.moved (u := U) (U := U.calling g mk a) (Vm.Alike.refl U.vm) qK, qD⟩, va_recv hK hPc (ci := 6) (q0 := 0) rfl rfl, fun U hU hW => ⟨rfl, by rw [hU], by rw [hU]; exact hPc, va_K.moved hW.alike hK, hDc.weaken (fun _ _ _ _ => trivial)⟩⟩ rfl rfl hl.1 rfl (lv_room (by first | exact Nat.le_of_ble_eq_true rfl | omega)) dL_law_587 ⟨(by first | exact Nat.le_of_ble_eq_true rfl | omega), (by first | exact Nat.le_of_ble_eq_true rfl | omega)⟩) hS (fun q _ h => hFc q h) hFc (fun r_28 u t H1 locs ht hvm hw hB hz1 hk1 hS => ?_)
      obtain ⟨κ1_29, hz_30, hP1, hK1, hD1⟩ := hB
      rw [ht] at hP1
      obtain ⟨hP, hD⟩ := va_joinP (wr := []) (rx := []) (pl1 := (pq_WD cI cZ cM cT hh ms1_24 gv tn tb1_22 κ1_29)) hP hD [] [] rfl rfl (by decide) (by decide) hk1 hFc hP1 hD1
      generalize H1 = H at hP hS ⊢
      have hP : va_P (dC, dI) vwCl ([] ++ (pq_WD cI cZ cM cT hh ms1_24 gv tn tb1_22 κ1_29)) H := hP
      have hD : va_D A ([] ++ (pq_WD cI cZ cM cT hh ms1_24 gv tn tb1_22 κ1_29)) := hD
      refine W.widen (k := k0) (n := n0) (by first | exact Nat.le_of_ble_eq_true rfl | omega) (by first | exact Nat.le_of_ble_eq_true rfl | omega) ?_
      obtain rfl : r_28 = zi (pq_om (pq_fl T q_5.toNat q_18 (-1) q_15) (-1) (-1) (-1) (2 : Int)) := hw
      refine pz_top (y := zi (-1)) (congrArg zi (rfl)) ?_
      refine lv_iconst (v := zi (-1)) hx hb dL_law_590 (by decide) ?_
      refine lv_icmp_ne (tgt := 656) hx hb dL_law_591 (by decide) (fun h => absurd (congrArg zi (show (-1 : Int) = (-1 : Int) from rfl)) h) (fun _ => ?_)
      refine lv_aload_n hx hb dL_law_594 rfl (lv_at hl 5 rfl) ?_
      refine lv_bipush (v := zi 9) hx hb dL_law_595 (by decide) ?_
      have hPc := hP.part (cx := []) [] rfl
      have hDc := hD.part (cx := []) [] (by decide) rfl
      have hFc := va_freeP (cx := []) hD hS hA [] rfl
      refine va_calli (va_runV (As := [.int (zi 9)]) (rest := []) ⟨hx, hb, hml, hown, hts⟩ (c_X7_many l dC dI cI cZ cM cT H.size hh ms1_24 gv tn tb1_22 κ1_29 9 hms1 hz_30 (by first | assumption | omega | rfl)) (cwV 1 hts (zz_gV (goodIn_of _ (by decide +kernel)) zg_c_X7_many) rfl rfl rfl (by decide +kernel) ⟨(by first | exact Nat.le_of_ble_eq_true rfl | omega), (by first | exact Nat.le_of_ble_eq_true rfl | omega)⟩) ⟨fun a U g mk q => by obtain ⟨q0, q1, qP, qK, qD⟩ := q; exact ⟨q0, q1, qP, va_K.moved (u := U) (U := U.calling g mk a) (Vm.Alike.refl U.vm) qK, qD⟩, va_recv hK hPc (ci := 6) (q0 := 0) rfl rfl, fun U hU hW => ⟨rfl, by rw [hU], by rw [hU]; exact hPc, va_K.moved hW.alike hK, hDc.weaken (fun _ _ _ _ => trivial)⟩⟩ rfl rfl hl.1 rfl (lv_room (by first | exact Nat.le_of_ble_eq_true rfl | omega)) dL_law_597 ⟨(by first | exact Nat.le_of_ble_eq_true rfl | omega), (by first | exact Nat.le_of_ble_eq_true rfl | omega)⟩) hS (fun q _ h => hFc q h) hFc (fun r_31 u t H1 locs ht hvm hw hB hz1 hk1 hS => ?_)
      obtain ⟨hP1, hK1, hD1⟩ := hB
      rw [ht] at hP1
      obtain ⟨hP, hD⟩ := va_joinP (wr := []) (rx := []) (pl1 := (pq_WD cI cZ cM cT hh ms1_24 gv tn tb1_22 κ1_29)) hP hD [] [] rfl rfl (by decide) (by decide) hk1 hFc hP1 hD1
      generalize H1 = H at hP hS ⊢
      have hP : va_P (dC, dI) vwCl ([] ++ (pq_WD cI cZ cM cT hh ms1_24 gv tn tb1_22 κ1_29)) H := hP
      have hD : va_D A ([] ++ (pq_WD cI cZ cM cT hh ms1_24 gv tn tb1_22 κ1_29)) := hD
      refine W.widen (k := k0) (n := n0) (by first | exact Nat.le_of_ble_eq_true rfl | omega) (by first | exact Nat.le_of_ble_eq_true rfl | omega) ?_
      obtain rfl : r_31 = zi (pq_ma ms1_24 gv tn tb1_22 (9 : Int)) := hw
      refine pz_top (y := zi tb1_22) (congrArg zi (rfl)) ?_
      refine lv_iload hx hb dL_law_600 (lv_at hl 13 rfl) ?_
      refine lv_iload hx hb dL_law_602 (lv_at hl 12 rfl) ?_
      refine pz_if_ge (tgt := 611) hx hb (by omega) dL_law_604 (by decide) (fun c_32 => ?_) (fun c_32 => ?_)
      · refine lv_iconst (v := zi 1) hx hb dL_law_611 (by decide) ?_
        refine pz_iadd hx hb dL_law_612 ?_
        refine lv_icmp_ne (tgt := 656) hx hb dL_law_613 (by decide) (fun h => absurd (congrArg zi (show tb1_22 = tb + 1 from (by rw [ht_26, pb_t (by omega)]))) h) (fun _ => ?_)
        refine lv_aload_n hx hb dL_law_616 rfl (lv_at hl 5 rfl) ?_
        refine lv_iload hx hb dL_law_617 (lv_at hl 11 rfl) ?_
        refine lv_iload hx hb dL_law_619 (lv_at hl 3 rfl) ?_
        refine lv_iconst (v := zi 2) hx hb dL_law_621 (by decide) ?_
        refine pz_idiv hx hb (by omega) dL_law_622 ?_
        refine lv_iload hx hb dL_law_623 (lv_at hl 3 rfl) ?_
        refine lv_iconst (v := zi 2) hx hb dL_law_625 (by decide) ?_
        refine pz_irem hx hb (by omega) dL_law_626 ?_
        refine lv_iconst (v := zi 0) hx hb dL_law_627 (by decide) ?_
        have hPc := hP.part (cx := []) [] rfl
        have hDc := hD.part (cx := []) [] (by decide) rfl
        have hFc := va_freeP (cx := []) hD hS hA [] rfl
        refine va_calli (va_runV (As := [.int (zi w), .int (zi (q_5 / 2)), .int (zi (q_5 % 2)), .int (zi 0)]) (rest := []) ⟨hx, hb, hml, hown, hts⟩ (c_X7_cell l dC dI cI cZ cM cT H.size hh ms1_24 gv tn tb1_22 κ1_29 w am aw av ax (pq_fl T q_5.toNat q_18 (-1) q_15) (-1) (-1) (-1) (q_5 / 2) (q_5 % 2) 0 hms1 hz_30 (by first | assumption | omega | rfl) hμ2 (by show (0 : Int) ≤ _ ∧ _ < pq_n T; omega) (by first | assumption | omega | rfl) (by first | assumption | omega | rfl)) (cwV 4 hts (zz_gV (goodIn_of _ (by decide +kernel)) zg_c_X7_cell) rfl rfl rfl (by decide +kernel) ⟨(by first | exact Nat.le_of_ble_eq_true rfl | omega), (by first | exact Nat.le_of_ble_eq_true rfl | omega)⟩) ⟨fun a U g mk q => by obtain ⟨q0, q1, qP, qK, qD⟩ := q; exact ⟨q0, q1, qP, va_K.moved (u := U) (U := U.calling g mk a) (Vm.Alike.refl U.vm) qK, qD⟩, va_recv hK hPc (ci := 6) (q0 := 0) rfl rfl, fun U hU hW => ⟨rfl, by rw [hU], by rw [hU]; exact hPc, va_K.moved hW.alike hK, hDc.weaken (fun _ _ _ _ => trivial)⟩⟩ rfl rfl hl.1 rfl (lv_room (by first | exact Nat.le_of_ble_eq_true rfl | omega)) dL_law_628 ⟨(by first | exact Nat.le_of_ble_eq_true rfl | omega), (by first | exact Nat.le_of_ble_eq_true rfl | omega)⟩) hS (fun q _ h => hFc q h) hFc (fun r_33 u t H1 locs ht hvm hw hB hz1 hk1 hS => ?_)
        obtain ⟨κ1_34, hz_35, hP1, hK1, hD1⟩ := hB
        rw [ht] at hP1
        obtain ⟨hP, hD⟩ := va_joinP (wr := []) (rx := []) (pl1 := (pq_WD cI cZ cM cT hh ms1_24 gv tn tb1_22 κ1_34)) hP hD [] [] rfl rfl (by decide) (by decide) hk1 hFc hP1 hD1
        generalize H1 = H at hP hS ⊢
        have hP : va_P (dC, dI) vwCl ([] ++ (pq_WD cI cZ cM cT hh ms1_24 gv tn tb1_22 κ1_34)) H := hP
        have hD : va_D A ([] ++ (pq_WD cI cZ cM cT hh ms1_24 gv tn tb1_22 κ1_34)) := hD
        refine W.widen (k := k0) (n := n0) (by first | exact Nat.le_of_ble_eq_true rfl | omega) (by first | exact Nat.le_of_ble_eq_true rfl | omega) ?_
        obtain rfl : r_33 = zi (pq_ca (pq_fl T q_5.toNat q_18 (-1) q_15) (2 * (q_5 / 2) + (q_5 % 2)) (0 : Int)) := hw
        refine pz_top (y := zi q_18) (congrArg zi (by rw [hq2]; exact pq_ca_fl0 hok (by omega))) ?_
        refine lv_iload hx hb dL_law_631 (lv_at hl 0 rfl) ?_
        refine lv_icmp_ne (tgt := 656) hx hb dL_law_633 (by decide) (fun h => absurd (congrArg zi (show q_18 = q_18 from rfl)) h) (fun _ => ?_)
        refine lv_aload_n hx hb dL_law_636 rfl (lv_at hl 5 rfl) ?_
        refine lv_iload hx hb dL_law_637 (lv_at hl 11 rfl) ?_
        refine lv_iload hx hb dL_law_639 (lv_at hl 3 rfl) ?_
        refine lv_iconst (v := zi 2) hx hb dL_law_641 (by decide) ?_
        refine pz_idiv hx hb (by omega) dL_law_642 ?_
        refine lv_iload hx hb dL_law_643 (lv_at hl 3 rfl) ?_
        refine lv_iconst (v := zi 2) hx hb dL_law_645 (by decide) ?_
        refine pz_irem hx hb (by omega) dL_law_646 ?_
        refine lv_iconst (v := zi 2) hx hb dL_law_647 (by decide) ?_
        have hPc := hP.part (cx := []) [] rfl
        have hDc := hD.part (cx := []) [] (by decide) rfl
        have hFc := va_freeP (cx := []) hD hS hA [] rfl
        refine va_calli (va_runV (As := [.int (zi w), .int (zi (q_5 / 2)), .int (zi (q_5 % 2)), .int (zi 2)]) (rest := []) ⟨hx, hb, hml, hown, hts⟩ (c_X7_cell l dC dI cI cZ cM cT H.size hh ms1_24 gv tn tb1_22 κ1_34 w am aw av ax (pq_fl T q_5.toNat q_18 (-1) q_15) (-1) (-1) (-1) (q_5 / 2) (q_5 % 2) 2 hms1 hz_35 (by first | assumption | omega | rfl) hμ2 (by show (0 : Int) ≤ _ ∧ _ < pq_n T; omega) (by first | assumption | omega | rfl) (by first | assumption | omega | rfl)) (cwV 4 hts (zz_gV (goodIn_of _ (by decide +kernel)) zg_c_X7_cell) rfl rfl rfl (by decide +kernel) ⟨(by first | exact Nat.le_of_ble_eq_true rfl | omega), (by first | exact Nat.le_of_ble_eq_true rfl | omega)⟩) ⟨fun a U g mk q => by obtain ⟨q0, q1, qP, qK, qD⟩ := q; exact ⟨q0, q1, qP, va_K.moved (u := U) (U := U.calling g mk a) (Vm.Alike.refl U.vm) qK, qD⟩, va_recv hK hPc (ci := 6) (q0 := 0) rfl rfl, fun U hU hW => ⟨rfl, by rw [hU], by rw [hU]; exact hPc, va_K.moved hW.alike hK, hDc.weaken (fun _ _ _ _ => trivial)⟩⟩ rfl rfl hl.1 rfl (lv_room (by first | exact Nat.le_of_ble_eq_true rfl | omega)) dL_law_648 ⟨(by first | exact Nat.le_of_ble_eq_true rfl | omega), (by first | exact Nat.le_of_ble_eq_true rfl | omega)⟩) hS (fun q _ h => hFc q h) hFc (fun r_36 u t H1 locs ht hvm hw hB hz1 hk1 hS => ?_)
        obtain ⟨κ1_37, hz_38, hP1, hK1, hD1⟩ := hB
        rw [ht] at hP1
        obtain ⟨hP, hD⟩ := va_joinP (wr := []) (rx := []) (pl1 := (pq_WD cI cZ cM cT hh ms1_24 gv tn tb1_22 κ1_37)) hP hD [] [] rfl rfl (by decide) (by decide) hk1 hFc hP1 hD1
        generalize H1 = H at hP hS ⊢
        have hP : va_P (dC, dI) vwCl ([] ++ (pq_WD cI cZ cM cT hh ms1_24 gv tn tb1_22 κ1_37)) H := hP
        have hD : va_D A ([] ++ (pq_WD cI cZ cM cT hh ms1_24 gv tn tb1_22 κ1_37)) := hD
        refine W.widen (k := k0) (n := n0) (by first | exact Nat.le_of_ble_eq_true rfl | omega) (by first | exact Nat.le_of_ble_eq_true rfl | omega) ?_
        obtain rfl : r_36 = zi (pq_ca (pq_fl T q_5.toNat q_18 (-1) q_15) (2 * (q_5 / 2) + (q_5 % 2)) (2 : Int)) := hw
        refine pz_top (y := zi q_15) (congrArg zi (by rw [hq2]; exact pq_ca_fl2 hok (by omega))) ?_
        refine lv_iload hx hb dL_law_651 (lv_at hl 1 rfl) ?_
        refine lv_icmp_eq (tgt := 752) hx hb dL_law_653 (by decide) (fun _ => ?_) (fun h => absurd (congrArg zi (show q_15 = q_15 from rfl)) h)
        exact K752 _ _ _ _ _ _ _ _ _ _ (by omega) (by omega) hms1 hlen1 hz_38 hP hD hS (lv_sub hl [4, 5, 6, 7, 8] rfl)
      · refine lv_iconst (v := zi 0) hx hb dL_law_607 (by decide) ?_
        refine lv_goto (tgt := 612) hx hb dL_law_608 (by decide) ?_
        refine pz_iadd hx hb dL_law_612 ?_
        refine lv_icmp_ne (tgt := 656) hx hb dL_law_613 (by decide) (fun h => absurd (congrArg zi (show tb1_22 = tb + 0 from (by rw [ht_26, pb_f (fun h => h (by omega))]))) h) (fun _ => ?_)
        refine lv_aload_n hx hb dL_law_616 rfl (lv_at hl 5 rfl) ?_
        refine lv_iload hx hb dL_law_617 (lv_at hl 11 rfl) ?_
        refine lv_iload hx hb dL_law_619 (lv_at hl 3 rfl) ?_
        refine lv_iconst (v := zi 2) hx hb dL_law_621 (by decide) ?_
        refine pz_idiv hx hb (by omega) dL_law_622 ?_
        refine lv_iload hx hb dL_law_623 (lv_at hl 3 rfl) ?_
        refine lv_iconst (v := zi 2) hx hb dL_law_625 (by decide) ?_
        refine pz_irem hx hb (by omega) dL_law_626 ?_
        refine lv_iconst (v := zi 0) hx hb dL_law_627 (by decide) ?_
        have hPc := hP.part (cx := []) [] rfl
        have hDc := hD.part (cx := []) [] (by decide) rfl
        have hFc := va_freeP (cx := []) hD hS hA [] rfl
        refine va_calli (va_runV (As := [.int (zi w), .int (zi (q_5 / 2)), .int (zi (q_5 % 2)), .int (zi 0)]) (rest := []) ⟨hx, hb, hml, hown, hts⟩ (c_X7_cell l dC dI cI cZ cM cT H.size hh ms1_24 gv tn tb1_22 κ1_29 w am aw av ax (pq_fl T q_5.toNat q_18 (-1) q_15) (-1) (-1) (-1) (q_5 / 2) (q_5 % 2) 0 hms1 hz_30 (by first | assumption | omega | rfl) hμ2 (by show (0 : Int) ≤ _ ∧ _ < pq_n T; omega) (by first | assumption | omega | rfl) (by first | assumption | omega | rfl)) (cwV 4 hts (zz_gV (goodIn_of _ (by decide +kernel)) zg_c_X7_cell) rfl rfl rfl (by decide +kernel) ⟨(by first | exact Nat.le_of_ble_eq_true rfl | omega), (by first | exact Nat.le_of_ble_eq_true rfl | omega)⟩) ⟨fun a U g mk q => by obtain ⟨q0, q1, qP, qK, qD⟩ := q; exact ⟨q0, q1, qP, va_K.moved (u := U) (U := U.calling g mk a) (Vm.Alike.refl U.vm) qK, qD⟩, va_recv hK hPc (ci := 6) (q0 := 0) rfl rfl, fun U hU hW => ⟨rfl, by rw [hU], by rw [hU]; exact hPc, va_K.moved hW.alike hK, hDc.weaken (fun _ _ _ _ => trivial)⟩⟩ rfl rfl hl.1 rfl (lv_room (by first | exact Nat.le_of_ble_eq_true rfl | omega)) dL_law_628 ⟨(by first | exact Nat.le_of_ble_eq_true rfl | omega), (by first | exact Nat.le_of_ble_eq_true rfl | omega)⟩) hS (fun q _ h => hFc q h) hFc (fun r_39 u t H1 locs ht hvm hw hB hz1 hk1 hS => ?_)
        obtain ⟨κ1_40, hz_41, hP1, hK1, hD1⟩ := hB
        rw [ht] at hP1
        obtain ⟨hP, hD⟩ := va_joinP (wr := []) (rx := []) (pl1 := (pq_WD cI cZ cM cT hh ms1_24 gv tn tb1_22 κ1_40)) hP hD [] [] rfl rfl (by decide) (by decide) hk1 hFc hP1 hD1
        generalize H1 = H at hP hS ⊢
        have hP : va_P (dC, dI) vwCl ([] ++ (pq_WD cI cZ cM cT hh ms1_24 gv tn tb1_22 κ1_40)) H := hP
        have hD : va_D A ([] ++ (pq_WD cI cZ cM cT hh ms1_24 gv tn tb1_22 κ1_40)) := hD
        refine W.widen (k := k0) (n := n0) (by first | exact Nat.le_of_ble_eq_true rfl | omega) (by first | exact Nat.le_of_ble_eq_true rfl | omega) ?_
        obtain rfl : r_39 = zi (pq_ca (pq_fl T q_5.toNat q_18 (-1) q_15) (2 * (q_5 / 2) + (q_5 % 2)) (0 : Int)) := hw
        refine pz_top (y := zi q_18) (congrArg zi (by rw [hq2]; exact pq_ca_fl0 hok (by omega))) ?_
        refine lv_iload hx hb dL_law_631 (lv_at hl 0 rfl) ?_
        refine lv_icmp_ne (tgt := 656) hx hb dL_law_633 (by decide) (fun h => absurd (congrArg zi (show q_18 = q_18 from rfl)) h) (fun _ => ?_)
        refine lv_aload_n hx hb dL_law_636 rfl (lv_at hl 5 rfl) ?_
        refine lv_iload hx hb dL_law_637 (lv_at hl 11 rfl) ?_
        refine lv_iload hx hb dL_law_639 (lv_at hl 3 rfl) ?_
        refine lv_iconst (v := zi 2) hx hb dL_law_641 (by decide) ?_
        refine pz_idiv hx hb (by omega) dL_law_642 ?_
        refine lv_iload hx hb dL_law_643 (lv_at hl 3 rfl) ?_
        refine lv_iconst (v := zi 2) hx hb dL_law_645 (by decide) ?_
        refine pz_irem hx hb (by omega) dL_law_646 ?_
        refine lv_iconst (v := zi 2) hx hb dL_law_647 (by decide) ?_
        have hPc := hP.part (cx := []) [] rfl
        have hDc := hD.part (cx := []) [] (by decide) rfl
        have hFc := va_freeP (cx := []) hD hS hA [] rfl
        refine va_calli (va_runV (As := [.int (zi w), .int (zi (q_5 / 2)), .int (zi (q_5 % 2)), .int (zi 2)]) (rest := []) ⟨hx, hb, hml, hown, hts⟩ (c_X7_cell l dC dI cI cZ cM cT H.size hh ms1_24 gv tn tb1_22 κ1_40 w am aw av ax (pq_fl T q_5.toNat q_18 (-1) q_15) (-1) (-1) (-1) (q_5 / 2) (q_5 % 2) 2 hms1 hz_41 (by first | assumption | omega | rfl) hμ2 (by show (0 : Int) ≤ _ ∧ _ < pq_n T; omega) (by first | assumption | omega | rfl) (by first | assumption | omega | rfl)) (cwV 4 hts (zz_gV (goodIn_of _ (by decide +kernel)) zg_c_X7_cell) rfl rfl rfl (by decide +kernel) ⟨(by first | exact Nat.le_of_ble_eq_true rfl | omega), (by first | exact Nat.le_of_ble_eq_true rfl | omega)⟩) ⟨fun a U g mk q => by obtain ⟨q0, q1, qP, qK, qD⟩ := q; exact ⟨q0, q1, qP, va_K.moved (u := U) (U := U.calling g mk a) (Vm.Alike.refl U.vm) qK, qD⟩, va_recv hK hPc (ci := 6) (q0 := 0) rfl rfl, fun U hU hW => ⟨rfl, by rw [hU], by rw [hU]; exact hPc, va_K.moved hW.alike hK, hDc.weaken (fun _ _ _ _ => trivial)⟩⟩ rfl rfl hl.1 rfl (lv_room (by first | exact Nat.le_of_ble_eq_true rfl | omega)) dL_law_648 ⟨(by first | exact Nat.le_of_ble_eq_true rfl | omega), (by first | exact Nat.le_of_ble_eq_true rfl | omega)⟩) hS (fun q _ h => hFc q h) hFc (fun r_42 u t H1 locs ht hvm hw hB hz1 hk1 hS => ?_)
        obtain ⟨κ1_43, hz_44, hP1, hK1, hD1⟩ := hB
        rw [ht] at hP1
        obtain ⟨hP, hD⟩ := va_joinP (wr := []) (rx := []) (pl1 := (pq_WD cI cZ cM cT hh ms1_24 gv tn tb1_22 κ1_43)) hP hD [] [] rfl rfl (by decide) (by decide) hk1 hFc hP1 hD1
        generalize H1 = H at hP hS ⊢
        have hP : va_P (dC, dI) vwCl ([] ++ (pq_WD cI cZ cM cT hh ms1_24 gv tn tb1_22 κ1_43)) H := hP
        have hD : va_D A ([] ++ (pq_WD cI cZ cM cT hh ms1_24 gv tn tb1_22 κ1_43)) := hD
        refine W.widen (k := k0) (n := n0) (by first | exact Nat.le_of_ble_eq_true rfl | omega) (by first | exact Nat.le_of_ble_eq_true rfl | omega) ?_
        obtain rfl : r_42 = zi (pq_ca (pq_fl T q_5.toNat q_18 (-1) q_15) (2 * (q_5 / 2) + (q_5 % 2)) (2 : Int)) := hw
        refine pz_top (y := zi q_15) (congrArg zi (by rw [hq2]; exact pq_ca_fl2 hok (by omega))) ?_
        refine lv_iload hx hb dL_law_651 (lv_at hl 1 rfl) ?_
        refine lv_icmp_eq (tgt := 752) hx hb dL_law_653 (by decide) (fun _ => ?_) (fun h => absurd (congrArg zi (show q_15 = q_15 from rfl)) h)
        exact K752 _ _ _ _ _ _ _ _ _ _ (by omega) (by omega) hms1 hlen1 hz_44 hP hD hS (lv_sub hl [4, 5, 6, 7, 8] rfl)
    · exact absurd c_20 (by omega)
  · refine lv_iconst (v := zi 1) hx hb dL_law_499 (by decide) ?_
    refine lv_goto (tgt := 504) hx hb dL_law_500 (by decide) ?_
    have hE : pq_E T q_5 := Classical.not_not.mp (fun h => by have h9 := c_10; rw [pq_ca_0 h] at h9; have := pq_nE hok h; omega)
    refine lv_istore (lv' := [(11, .int (zi 1)), (10, .int (zi q_5)), (0, .ref b), (1, .ref hh), (2, .int (zi gv)), (3, .int (zi tn)), (4, .int (zi j)), (5, .int x9), (6, .int (zi (ms.length : Int))), (7, .int (zi w)), (8, .int (zi kk)), (9, .int (zi tb))]) hx hb dL_law_504 hl (by decide) rfl (fun ls hl => ?_)
    refine lv_iload hx hb dL_law_506 (lv_at hl 7 rfl) ?_
    refine lv_iconst (v := zi 5) hx hb dL_law_508 (by decide) ?_
    refine lv_ishr hx hb dL_law_509 ?_
    refine lv_aload_n hx hb dL_law_510 rfl (lv_at hl 3 rfl) ?_
    refine lv_iload hx hb dL_law_511 (lv_at hl 9 rfl) ?_
    refine lv_iconst (v := zi 0) hx hb dL_law_513 (by decide) ?_
    have hPc := hP.part (cx := []) [] rfl
    have hDc := hD.part (cx := []) [] (by decide) rfl
    have hFc := va_freeP (cx := []) hD hS hA [] rfl
    refine va_calli (va_runV (As := [.int (zi w), .int (zi 0)]) (rest := [.int (x9 >>> ((zi 5) &&& 31))]) ⟨hx, hb, hml, hown, hts⟩ (c_X7_ofMachine l dC dI cI cZ cM cT H.size hh ms gv tn tb κ1_8 w am aw av ax T kk ka kb 0 (by first | assumption | omega | rfl) hz_9 (by first | assumption | omega | rfl) hμ (by first | assumption | omega | rfl)) (cwV 2 hts (zz_gV (goodIn_of _ (by decide +kernel)) zg_c_X7_ofMachine) rfl rfl rfl (by decide +kernel) ⟨(by first | exact Nat.le_of_ble_eq_true rfl | omega), (by first | exact Nat.le_of_ble_eq_true rfl | omega)⟩) ⟨fun a U g mk q => by obtain ⟨q0, q1, qP, qK, qD⟩ := q; exact ⟨q0, q1, qP, va_K.moved (u := U) (U := U.calling g mk a) (Vm.Alike.refl U.vm) qK, qD⟩, va_recv hK hPc (ci := 6) (q0 := 0) rfl rfl, fun U hU hW => ⟨rfl, by rw [hU], by rw [hU]; exact hPc, va_K.moved hW.alike hK, hDc.weaken (fun _ _ _ _ => trivial)⟩⟩ rfl rfl hl.1 rfl (lv_room (by first | exact Nat.le_of_ble_eq_true rfl | omega)) dL_law_514 ⟨(by first | exact Nat.le_of_ble_eq_true rfl | omega), (by first | exact Nat.le_of_ble_eq_true rfl | omega)⟩) hS (fun q _ h => hFc q h) hFc (fun r_45 u t H1 locs ht hvm hw hB hz1 hk1 hS => ?_)
    obtain ⟨κ1_46, hz_47, hP1, hK1, hD1⟩ := hB
    rw [ht] at hP1
    obtain ⟨hP, hD⟩ := va_joinP (wr := []) (rx := []) (pl1 := (pq_WD cI cZ cM cT hh ms gv tn tb κ1_46)) hP hD [] [] rfl rfl (by decide) (by decide) hk1 hFc hP1 hD1
    generalize H1 = H at hP hS ⊢
    have hP : va_P (dC, dI) vwCl ([] ++ (pq_WD cI cZ cM cT hh ms gv tn tb κ1_46)) H := hP
    have hD : va_D A ([] ++ (pq_WD cI cZ cM cT hh ms gv tn tb κ1_46)) := hD
    refine W.widen (k := k0) (n := n0) (by first | exact Nat.le_of_ble_eq_true rfl | omega) (by first | exact Nat.le_of_ble_eq_true rfl | omega) ?_
    obtain rfl : r_45 = zi (pq_om T kk ka kb (0 : Int)) := hw
    refine pz_top (y := zi (pq_n T)) (congrArg zi (rfl)) ?_
    refine lv_iconst (v := zi 1) hx hb dL_law_517 (by decide) ?_
    refine pz_iadd hx hb dL_law_518 ?_
    have hPc := hP.sub (ws' := []) [] rfl
    have hDc := hD.sub (ws' := []) [] (by decide) rfl
    have hFc := va_free (wc := []) hD hS hA [] rfl
    refine va_calli (va_runS (As := [.int (x9 >>> ((zi 5) &&& 31)), .int (zi ((pq_n T) + 1))]) (rest := []) ⟨hx, hb, hml, hown, hts⟩ (c_L_below l dC dI cI cZ cM cT H.size (x9 >>> ((zi 5) &&& 31)) ((pq_n T) + 1) (by first | assumption | omega | rfl)) (va_cwS 2 hts (zz_gS (goodIn_of _ (by decide +kernel)) zg_c_L_below) rfl rfl rfl (by decide +kernel) ⟨(by first | exact Nat.le_of_ble_eq_true rfl | omega), (by first | exact Nat.le_of_ble_eq_true rfl | omega)⟩) ⟨fun a U g mk q => by obtain ⟨q0, q1, qP, qK, qD⟩ := q; exact ⟨q0, q1, qP, va_K.moved (u := U) (U := U.calling g mk a) (Vm.Alike.refl U.vm) qK, qD⟩, fun U hU hW => ⟨rfl, by rw [hU], by rw [hU]; exact hPc, va_K.moved hW.alike hK, hDc.weaken (fun _ _ _ _ => trivial)⟩⟩ rfl rfl hl.1 rfl (lv_room (by first | exact Nat.le_of_ble_eq_true rfl | omega)) dL_law_519 ⟨(by first | exact Nat.le_of_ble_eq_true rfl | omega), (by first | exact Nat.le_of_ble_eq_true rfl | omega)⟩) hS (fun q _ h => hFc q h) hFc (fun r_48 u t H1 locs ht hvm hw hB hz1 hk1 hS => ?_)
    obtain ⟨hP1, hK1, hD1⟩ := hB
    rw [ht] at hP1
    obtain ⟨hP, hD⟩ := va_joinQ (wr := []) (w1 := []) (pl := (pq_WD cI cZ cM cT hh ms gv tn tb κ1_46)) hP hD [] [] rfl rfl (by decide) (by decide) hk1 hFc hP1 hD1
    generalize H1 = H at hP hS ⊢
    have hP : va_P (dC, dI) vwCl ([] ++ (pq_WD cI cZ cM cT hh ms gv tn tb κ1_46)) H := hP
    have hD : va_D A ([] ++ (pq_WD cI cZ cM cT hh ms gv tn tb κ1_46)) := hD
    refine W.widen (k := k0) (n := n0) (by first | exact Nat.le_of_ble_eq_true rfl | omega) (by first | exact Nat.le_of_ble_eq_true rfl | omega) ?_
    obtain ⟨q_49, rfl, hq_50⟩ := hw
    refine lv_istore (lv' := [(12, .int (zi q_49)), (11, .int (zi 1)), (10, .int (zi q_5)), (0, .ref b), (1, .ref hh), (2, .int (zi gv)), (3, .int (zi tn)), (4, .int (zi j)), (5, .int x9), (6, .int (zi (ms.length : Int))), (7, .int (zi w)), (8, .int (zi kk)), (9, .int (zi tb))]) hx hb dL_law_522 hl (by decide) rfl (fun ls hl => ?_)
    refine lv_iload hx hb dL_law_524 (lv_at hl 8 rfl) ?_
    refine lv_bipush (v := zi 6) hx hb dL_law_526 (by decide) ?_
    refine lv_ishr hx hb dL_law_528 ?_
    refine lv_iconst (v := zi 2) hx hb dL_law_529 (by decide) ?_
    have hPc := hP.sub (ws' := []) [] rfl
    have hDc := hD.sub (ws' := []) [] (by decide) rfl
    have hFc := va_free (wc := []) hD hS hA [] rfl
    refine va_calli (va_runS (As := [.int (x9 >>> ((zi 6) &&& 31)), .int (zi 2)]) (rest := []) ⟨hx, hb, hml, hown, hts⟩ (c_L_below l dC dI cI cZ cM cT H.size (x9 >>> ((zi 6) &&& 31)) 2 (by first | assumption | omega | rfl)) (va_cwS 2 hts (zz_gS (goodIn_of _ (by decide +kernel)) zg_c_L_below) rfl rfl rfl (by decide +kernel) ⟨(by first | exact Nat.le_of_ble_eq_true rfl | omega), (by first | exact Nat.le_of_ble_eq_true rfl | omega)⟩) ⟨fun a U g mk q => by obtain ⟨q0, q1, qP, qK, qD⟩ := q; exact ⟨q0, q1, qP, va_K.moved (u := U) (U := U.calling g mk a) (Vm.Alike.refl U.vm) qK, qD⟩, fun U hU hW => ⟨rfl, by rw [hU], by rw [hU]; exact hPc, va_K.moved hW.alike hK, hDc.weaken (fun _ _ _ _ => trivial)⟩⟩ rfl rfl hl.1 rfl (lv_room (by first | exact Nat.le_of_ble_eq_true rfl | omega)) dL_law_530 ⟨(by first | exact Nat.le_of_ble_eq_true rfl | omega), (by first | exact Nat.le_of_ble_eq_true rfl | omega)⟩) hS (fun q _ h => hFc q h) hFc (fun r_51 u t H1 locs ht hvm hw hB hz1 hk1 hS => ?_)
    obtain ⟨hP1, hK1, hD1⟩ := hB
    rw [ht] at hP1
    obtain ⟨hP, hD⟩ := va_joinQ (wr := []) (w1 := []) (pl := (pq_WD cI cZ cM cT hh ms gv tn tb κ1_46)) hP hD [] [] rfl rfl (by decide) (by decide) hk1 hFc hP1 hD1
    generalize H1 = H at hP hS ⊢
    have hP : va_P (dC, dI) vwCl ([] ++ (pq_WD cI cZ cM cT hh ms gv tn tb κ1_46)) H := hP
    have hD : va_D A ([] ++ (pq_WD cI cZ cM cT hh ms gv tn tb κ1_46)) := hD
    refine W.widen (k := k0) (n := n0) (by first | exact Nat.le_of_ble_eq_true rfl | omega) (by first | exact Nat.le_of_ble_eq_true rfl | omega) ?_
    obtain ⟨q_52, rfl, hq_53⟩ := hw
    refine lv_istore (lv' := [(13, .int (zi q_52)), (12, .int (zi q_49)), (11, .int (zi 1)), (10, .int (zi q_5)), (0, .ref b), (1, .ref hh), (2, .int (zi gv)), (3, .int (zi tn)), (4, .int (zi j)), (5, .int x9), (6, .int (zi (ms.length : Int))), (7, .int (zi w)), (8, .int (zi kk)), (9, .int (zi tb))]) hx hb dL_law_533 hl (by decide) rfl (fun ls hl => ?_)
    refine lv_iload hx hb dL_law_535 (lv_at hl 2 rfl) ?_
    refine pz_if_eq (tgt := 563) hx hb (by omega) dL_law_537 (by decide) (fun c_54 => ?_) (fun c_54 => ?_)
    · exact absurd c_54 (by omega)
    · refine lv_aload_n hx hb dL_law_540 rfl (lv_at hl 5 rfl) ?_
      refine lv_iload hx hb dL_law_541 (lv_at hl 11 rfl) ?_
      refine lv_iload hx hb dL_law_543 (lv_at hl 3 rfl) ?_
      refine lv_iconst (v := zi 2) hx hb dL_law_545 (by decide) ?_
      refine pz_idiv hx hb (by omega) dL_law_546 ?_
      refine lv_iload hx hb dL_law_547 (lv_at hl 3 rfl) ?_
      refine lv_iconst (v := zi 2) hx hb dL_law_549 (by decide) ?_
      refine pz_irem hx hb (by omega) dL_law_550 ?_
      refine lv_iload hx hb dL_law_551 (lv_at hl 0 rfl) ?_
      refine lv_iconst (v := zi 1) hx hb dL_law_553 (by decide) ?_
      refine lv_iload hx hb dL_law_554 (lv_at hl 1 rfl) ?_
      have hPc := hP.part (cx := []) [] rfl
      have hDc := hD.part (cx := []) [] (by decide) rfl
      have hFc := va_freeP (cx := []) hD hS hA [] rfl
      refine va_calli (va_runV (As := [.int (zi w), .int (zi (q_5 / 2)), .int (zi (q_5 % 2)), .int (zi q_52), .int (zi 1), .int (zi q_49)]) (rest := []) ⟨hx, hb, hml, hown, hts⟩ (c_X7_tell l dC dI cI cZ cM cT H.size hh ms gv tn tb κ1_46 w am aw av ax T kk ka kb (q_5 / 2) (q_5 % 2) q_52 1 q_49 (by first | assumption | omega | rfl) hz_47 (by first | assumption | omega | rfl) hμ (by first | assumption | omega | rfl) (by first | assumption | omega | rfl) (by first | assumption | omega | rfl) (by first | assumption | omega | rfl) (by first | assumption | omega | rfl) (by rw [hq2]; exact hE)) (cwV 6 hts (zz_gV (goodIn_of _ (by decide +kernel)) zg_c_X7_tell) rfl rfl rfl (by decide +kernel) ⟨(by first | exact Nat.le_of_ble_eq_true rfl | omega), (by first | exact Nat.le_of_ble_eq_true rfl | omega)⟩) ⟨fun a U g mk q => by obtain ⟨q0, q1, qP, qK, qD⟩ := q; exact ⟨q0, q1, qP, va_K.moved (u := U) (U := U.calling g mk a) (Vm.Alike.refl U.vm) qK, qD⟩, va_recv hK hPc (ci := 6) (q0 := 0) rfl rfl, fun U hU hW => ⟨rfl, by rw [hU], by rw [hU]; exact hPc, va_K.moved hW.alike hK, hDc.weaken (fun _ _ _ _ => trivial)⟩⟩ rfl rfl hl.1 rfl (lv_room (by first | exact Nat.le_of_ble_eq_true rfl | omega)) dL_law_556 ⟨(by first | exact Nat.le_of_ble_eq_true rfl | omega), (by first | exact Nat.le_of_ble_eq_true rfl | omega)⟩) hS (fun q _ h => hFc q h) hFc (fun r_55 u t H1 locs ht hvm hw hB hz1 hk1 hS => ?_)
      obtain ⟨tb1_56, κ1_57, ms1_58, hz_59, ht_60, hm_61, hP1, hK1, hD1⟩ := hB
      rw [ht] at hP1
      obtain ⟨hP, hD⟩ := va_joinP (wr := []) (rx := []) (pl1 := (pq_WD cI cZ cM cT hh ms1_58 gv tn tb1_56 κ1_57)) hP hD [] [] rfl rfl (by decide) (by decide) hk1 hFc hP1 hD1
      generalize H1 = H at hP hS ⊢
      have hP : va_P (dC, dI) vwCl ([] ++ (pq_WD cI cZ cM cT hh ms1_58 gv tn tb1_56 κ1_57)) H := hP
      have hD : va_D A ([] ++ (pq_WD cI cZ cM cT hh ms1_58 gv tn tb1_56 κ1_57)) := hD
      refine W.widen (k := k0) (n := n0) (by first | exact Nat.le_of_ble_eq_true rfl | omega) (by first | exact Nat.le_of_ble_eq_true rfl | omega) ?_
      obtain rfl : r_55 = zi (pq_ce (pq_fl T (2 * (q_5 / 2) + (q_5 % 2)).toNat q_52 (1 : Int) q_49) (2 * pq_n T).toNat) := hw
      refine lv_pop hx hb dL_law_559 rfl ?_
      refine lv_goto (tgt := 583) hx hb dL_law_560 (by decide) ?_
      have hm1 := hm_61
      rw [hq2] at hm1
      have hμ2 : ms1_58[w.toNat]? = some (am, aw, av, ax, (pq_fl T q_5.toNat q_52 1 q_49), -1, -1, -1) := by rw [hm1, List.getElem?_set_self (by omega)]
      have hok2 : pq_ok (pq_fl T q_5.toNat q_52 1 q_49) := pq_ok_fl hok (by omega) (by omega) (by decide) (by omega)
      have hms1 : pq_mo ms1_58 := by rw [hm1]; exact pq_mo_set hms ⟨hok2, Or.inl ⟨rfl, rfl, rfl⟩⟩
      have hlen1 : 1 ≤ ms1_58.length := by rw [hm1, List.length_set]; exact hlen
      refine lv_aload_n hx hb dL_law_583 rfl (lv_at hl 5 rfl) ?_
      refine lv_iload hx hb dL_law_584 (lv_at hl 11 rfl) ?_
      refine lv_iconst (v := zi 2) hx hb dL_law_586 (by decide) ?_
      have hPc := hP.part (cx := []) [] rfl
      have hDc := hD.part (cx := []) [] (by decide) rfl
      have hFc := va_freeP (cx := []) hD hS hA [] rfl
      refine va_calli (va_runV (As := [.int (zi w), .int (zi 2)]) (rest := []) ⟨hx, hb, hml, hown, hts⟩ (c_X7_ofMachine l dC dI cI cZ cM cT H.size hh ms1_58 gv tn tb1_56 κ1_57 w am aw av ax (pq_fl T q_5.toNat q_52 1 q_49) (-1) (-1) (-1) 2 hms1 hz_59 (by first | assumption | omega | rfl) hμ2 (by first | assumption | omega | rfl)) (cwV 2 hts (zz_gV (goodIn_of _ (by decide +kernel)) zg_c_X7_ofMachine) rfl rfl rfl (by decide +kernel) ⟨(by first | exact Nat.le_of_ble_eq_true rfl | omega), (by first | exact Nat.le_of_ble_eq_true rfl | omega)⟩) ⟨fun a U g mk q => by obtain ⟨q0, q1, qP, qK, qD⟩ := q; exact ⟨q0, q1, qP, va_K.moved (u := U) (U := U.calling g mk a) (Vm.Alike.refl U.vm) qK, qD⟩, va_recv hK hPc (ci := 6) (q0 := 0) rfl rfl, fun U hU hW => ⟨rfl, by rw [hU], by rw [hU]; exact hPc, va_K.moved hW.alike hK, hDc.weaken (fun _ _ _ _ => trivial)⟩⟩ rfl rfl hl.1 rfl (lv_room (by first | exact Nat.le_of_ble_eq_true rfl | omega)) dL_law_587 ⟨(by first | exact Nat.le_of_ble_eq_true rfl | omega), (by first | exact Nat.le_of_ble_eq_true rfl | omega)⟩) hS (fun q _ h => hFc q h) hFc (fun r_62 u t H1 locs ht hvm hw hB hz1 hk1 hS => ?_)
      obtain ⟨κ1_63, hz_64, hP1, hK1, hD1⟩ := hB
      rw [ht] at hP1
      obtain ⟨hP, hD⟩ := va_joinP (wr := []) (rx := []) (pl1 := (pq_WD cI cZ cM cT hh ms1_58 gv tn tb1_56 κ1_63)) hP hD [] [] rfl rfl (by decide) (by decide) hk1 hFc hP1 hD1
      generalize H1 = H at hP hS ⊢
      have hP : va_P (dC, dI) vwCl ([] ++ (pq_WD cI cZ cM cT hh ms1_58 gv tn tb1_56 κ1_63)) H := hP
      have hD : va_D A ([] ++ (pq_WD cI cZ cM cT hh ms1_58 gv tn tb1_56 κ1_63)) := hD
      refine W.widen (k := k0) (n := n0) (by first | exact Nat.le_of_ble_eq_true rfl | omega) (by first | exact Nat.le_of_ble_eq_true rfl | omega) ?_
      obtain rfl : r_62 = zi (pq_om (pq_fl T q_5.toNat q_52 1 q_49) (-1) (-1) (-1) (2 : Int)) := hw
      refine pz_top (y := zi (-1)) (congrArg zi (rfl)) ?_
      refine lv_iconst (v := zi (-1)) hx hb dL_law_590 (by decide) ?_
      refine lv_icmp_ne (tgt := 656) hx hb dL_law_591 (by decide) (fun h => absurd (congrArg zi (show (-1 : Int) = (-1 : Int) from rfl)) h) (fun _ => ?_)
      refine lv_aload_n hx hb dL_law_594 rfl (lv_at hl 5 rfl) ?_
      refine lv_bipush (v := zi 9) hx hb dL_law_595 (by decide) ?_
      have hPc := hP.part (cx := []) [] rfl
      have hDc := hD.part (cx := []) [] (by decide) rfl
      have hFc := va_freeP (cx := []) hD hS hA [] rfl
      refine va_calli (va_runV (As := [.int (zi 9)]) (rest := []) ⟨hx, hb, hml, hown, hts⟩ (c_X7_many l dC dI cI cZ cM cT H.size hh ms1_58 gv tn tb1_56 κ1_63 9 hms1 hz_64 (by first | assumption | omega | rfl)) (cwV 1 hts (zz_gV (goodIn_of _ (by decide +kernel)) zg_c_X7_many) rfl rfl rfl (by decide +kernel) ⟨(by first | exact Nat.le_of_ble_eq_true rfl | omega), (by first | exact Nat.le_of_ble_eq_true rfl | omega)⟩) ⟨fun a U g mk q => by obtain ⟨q0, q1, qP, qK, qD⟩ := q; exact ⟨q0, q1, qP, va_K.moved (u := U) (U := U.calling g mk a) (Vm.Alike.refl U.vm) qK, qD⟩, va_recv hK hPc (ci := 6) (q0 := 0) rfl rfl, fun U hU hW => ⟨rfl, by rw [hU], by rw [hU]; exact hPc, va_K.moved hW.alike hK, hDc.weaken (fun _ _ _ _ => trivial)⟩⟩ rfl rfl hl.1 rfl (lv_room (by first | exact Nat.le_of_ble_eq_true rfl | omega)) dL_law_597 ⟨(by first | exact Nat.le_of_ble_eq_true rfl | omega), (by first | exact Nat.le_of_ble_eq_true rfl | omega)⟩) hS (fun q _ h => hFc q h) hFc (fun r_65 u t H1 locs ht hvm hw hB hz1 hk1 hS => ?_)
      obtain ⟨hP1, hK1, hD1⟩ := hB
      rw [ht] at hP1
      obtain ⟨hP, hD⟩ := va_joinP (wr := []) (rx := []) (pl1 := (pq_WD cI cZ cM cT hh ms1_58 gv tn tb1_56 κ1_63)) hP hD [] [] rfl rfl (by decide) (by decide) hk1 hFc hP1 hD1
      generalize H1 = H at hP hS ⊢
      have hP : va_P (dC, dI) vwCl ([] ++ (pq_WD cI cZ cM cT hh ms1_58 gv tn tb1_56 κ1_63)) H := hP
      have hD : va_D A ([] ++ (pq_WD cI cZ cM cT hh ms1_58 gv tn tb1_56 κ1_63)) := hD
      refine W.widen (k := k0) (n := n0) (by first | exact Nat.le_of_ble_eq_true rfl | omega) (by first | exact Nat.le_of_ble_eq_true rfl | omega) ?_
      obtain rfl : r_65 = zi (pq_ma ms1_58 gv tn tb1_56 (9 : Int)) := hw
      refine pz_top (y := zi tb1_56) (congrArg zi (rfl)) ?_
      refine lv_iload hx hb dL_law_600 (lv_at hl 13 rfl) ?_
      refine lv_iload hx hb dL_law_602 (lv_at hl 12 rfl) ?_
      refine pz_if_ge (tgt := 611) hx hb (by omega) dL_law_604 (by decide) (fun c_66 => ?_) (fun c_66 => ?_)
      · refine lv_iconst (v := zi 1) hx hb dL_law_611 (by decide) ?_
        refine pz_iadd hx hb dL_law_612 ?_
        refine lv_icmp_ne (tgt := 656) hx hb dL_law_613 (by decide) (fun h => absurd (congrArg zi (show tb1_56 = tb + 1 from (by rw [ht_60, pb_t (by omega)]))) h) (fun _ => ?_)
        refine lv_aload_n hx hb dL_law_616 rfl (lv_at hl 5 rfl) ?_
        refine lv_iload hx hb dL_law_617 (lv_at hl 11 rfl) ?_
        refine lv_iload hx hb dL_law_619 (lv_at hl 3 rfl) ?_
        refine lv_iconst (v := zi 2) hx hb dL_law_621 (by decide) ?_
        refine pz_idiv hx hb (by omega) dL_law_622 ?_
        refine lv_iload hx hb dL_law_623 (lv_at hl 3 rfl) ?_
        refine lv_iconst (v := zi 2) hx hb dL_law_625 (by decide) ?_
        refine pz_irem hx hb (by omega) dL_law_626 ?_
        refine lv_iconst (v := zi 0) hx hb dL_law_627 (by decide) ?_
        have hPc := hP.part (cx := []) [] rfl
        have hDc := hD.part (cx := []) [] (by decide) rfl
        have hFc := va_freeP (cx := []) hD hS hA [] rfl
        refine va_calli (va_runV (As := [.int (zi w), .int (zi (q_5 / 2)), .int (zi (q_5 % 2)), .int (zi 0)]) (rest := []) ⟨hx, hb, hml, hown, hts⟩ (c_X7_cell l dC dI cI cZ cM cT H.size hh ms1_58 gv tn tb1_56 κ1_63 w am aw av ax (pq_fl T q_5.toNat q_52 1 q_49) (-1) (-1) (-1) (q_5 / 2) (q_5 % 2) 0 hms1 hz_64 (by first | assumption | omega | rfl) hμ2 (by show (0 : Int) ≤ _ ∧ _ < pq_n T; omega) (by first | assumption | omega | rfl) (by first | assumption | omega | rfl)) (cwV 4 hts (zz_gV (goodIn_of _ (by decide +kernel)) zg_c_X7_cell) rfl rfl rfl (by decide +kernel) ⟨(by first | exact Nat.le_of_ble_eq_true rfl | omega), (by first | exact Nat.le_of_ble_eq_true rfl | omega)⟩) ⟨fun a U g mk q => by obtain ⟨q0, q1, qP, qK, qD⟩ := q; exact ⟨q0, q1, qP, va_K.moved (u := U) (U := U.calling g mk a) (Vm.Alike.refl U.vm) qK, qD⟩, va_recv hK hPc (ci := 6) (q0 := 0) rfl rfl, fun U hU hW => ⟨rfl, by rw [hU], by rw [hU]; exact hPc, va_K.moved hW.alike hK, hDc.weaken (fun _ _ _ _ => trivial)⟩⟩ rfl rfl hl.1 rfl (lv_room (by first | exact Nat.le_of_ble_eq_true rfl | omega)) dL_law_628 ⟨(by first | exact Nat.le_of_ble_eq_true rfl | omega), (by first | exact Nat.le_of_ble_eq_true rfl | omega)⟩) hS (fun q _ h => hFc q h) hFc (fun r_67 u t H1 locs ht hvm hw hB hz1 hk1 hS => ?_)
        obtain ⟨κ1_68, hz_69, hP1, hK1, hD1⟩ := hB
        rw [ht] at hP1
        obtain ⟨hP, hD⟩ := va_joinP (wr := []) (rx := []) (pl1 := (pq_WD cI cZ cM cT hh ms1_58 gv tn tb1_56 κ1_68)) hP hD [] [] rfl rfl (by decide) (by decide) hk1 hFc hP1 hD1
        generalize H1 = H at hP hS ⊢
        have hP : va_P (dC, dI) vwCl ([] ++ (pq_WD cI cZ cM cT hh ms1_58 gv tn tb1_56 κ1_68)) H := hP
        have hD : va_D A ([] ++ (pq_WD cI cZ cM cT hh ms1_58 gv tn tb1_56 κ1_68)) := hD
        refine W.widen (k := k0) (n := n0) (by first | exact Nat.le_of_ble_eq_true rfl | omega) (by first | exact Nat.le_of_ble_eq_true rfl | omega) ?_
        obtain rfl : r_67 = zi (pq_ca (pq_fl T q_5.toNat q_52 1 q_49) (2 * (q_5 / 2) + (q_5 % 2)) (0 : Int)) := hw
        refine pz_top (y := zi q_52) (congrArg zi (by rw [hq2]; exact pq_ca_fl0 hok (by omega))) ?_
        refine lv_iload hx hb dL_law_631 (lv_at hl 0 rfl) ?_
        refine lv_icmp_ne (tgt := 656) hx hb dL_law_633 (by decide) (fun h => absurd (congrArg zi (show q_52 = q_52 from rfl)) h) (fun _ => ?_)
        refine lv_aload_n hx hb dL_law_636 rfl (lv_at hl 5 rfl) ?_
        refine lv_iload hx hb dL_law_637 (lv_at hl 11 rfl) ?_
        refine lv_iload hx hb dL_law_639 (lv_at hl 3 rfl) ?_
        refine lv_iconst (v := zi 2) hx hb dL_law_641 (by decide) ?_
        refine pz_idiv hx hb (by omega) dL_law_642 ?_
        refine lv_iload hx hb dL_law_643 (lv_at hl 3 rfl) ?_
        refine lv_iconst (v := zi 2) hx hb dL_law_645 (by decide) ?_
        refine pz_irem hx hb (by omega) dL_law_646 ?_
        refine lv_iconst (v := zi 2) hx hb dL_law_647 (by decide) ?_
        have hPc := hP.part (cx := []) [] rfl
        have hDc := hD.part (cx := []) [] (by decide) rfl
        have hFc := va_freeP (cx := []) hD hS hA [] rfl
        refine va_calli (va_runV (As := [.int (zi w), .int (zi (q_5 / 2)), .int (zi (q_5 % 2)), .int (zi 2)]) (rest := []) ⟨hx, hb, hml, hown, hts⟩ (c_X7_cell l dC dI cI cZ cM cT H.size hh ms1_58 gv tn tb1_56 κ1_68 w am aw av ax (pq_fl T q_5.toNat q_52 1 q_49) (-1) (-1) (-1) (q_5 / 2) (q_5 % 2) 2 hms1 hz_69 (by first | assumption | omega | rfl) hμ2 (by show (0 : Int) ≤ _ ∧ _ < pq_n T; omega) (by first | assumption | omega | rfl) (by first | assumption | omega | rfl)) (cwV 4 hts (zz_gV (goodIn_of _ (by decide +kernel)) zg_c_X7_cell) rfl rfl rfl (by decide +kernel) ⟨(by first | exact Nat.le_of_ble_eq_true rfl | omega), (by first | exact Nat.le_of_ble_eq_true rfl | omega)⟩) ⟨fun a U g mk q => by obtain ⟨q0, q1, qP, qK, qD⟩ := q; exact ⟨q0, q1, qP, va_K.moved (u := U) (U := U.calling g mk a) (Vm.Alike.refl U.vm) qK, qD⟩, va_recv hK hPc (ci := 6) (q0 := 0) rfl rfl, fun U hU hW => ⟨rfl, by rw [hU], by rw [hU]; exact hPc, va_K.moved hW.alike hK, hDc.weaken (fun _ _ _ _ => trivial)⟩⟩ rfl rfl hl.1 rfl (lv_room (by first | exact Nat.le_of_ble_eq_true rfl | omega)) dL_law_648 ⟨(by first | exact Nat.le_of_ble_eq_true rfl | omega), (by first | exact Nat.le_of_ble_eq_true rfl | omega)⟩) hS (fun q _ h => hFc q h) hFc (fun r_70 u t H1 locs ht hvm hw hB hz1 hk1 hS => ?_)
        obtain ⟨κ1_71, hz_72, hP1, hK1, hD1⟩ := hB
        rw [ht] at hP1
        obtain ⟨hP, hD⟩ := va_joinP (wr := []) (rx := []) (pl1 := (pq_WD cI cZ cM cT hh ms1_58 gv tn tb1_56 κ1_71)) hP hD [] [] rfl rfl (by decide) (by decide) hk1 hFc hP1 hD1
        generalize H1 = H at hP hS ⊢
        have hP : va_P (dC, dI) vwCl ([] ++ (pq_WD cI cZ cM cT hh ms1_58 gv tn tb1_56 κ1_71)) H := hP
        have hD : va_D A ([] ++ (pq_WD cI cZ cM cT hh ms1_58 gv tn tb1_56 κ1_71)) := hD
        refine W.widen (k := k0) (n := n0) (by first | exact Nat.le_of_ble_eq_true rfl | omega) (by first | exact Nat.le_of_ble_eq_true rfl | omega) ?_
        obtain rfl : r_70 = zi (pq_ca (pq_fl T q_5.toNat q_52 1 q_49) (2 * (q_5 / 2) + (q_5 % 2)) (2 : Int)) := hw
        refine pz_top (y := zi q_49) (congrArg zi (by rw [hq2]; exact pq_ca_fl2 hok (by omega))) ?_
        refine lv_iload hx hb dL_law_651 (lv_at hl 1 rfl) ?_
        refine lv_icmp_eq (tgt := 752) hx hb dL_law_653 (by decide) (fun _ => ?_) (fun h => absurd (congrArg zi (show q_49 = q_49 from rfl)) h)
        exact K752 _ _ _ _ _ _ _ _ _ _ (by omega) (by omega) hms1 hlen1 hz_72 hP hD hS (lv_sub hl [4, 5, 6, 7, 8] rfl)
      · refine lv_iconst (v := zi 0) hx hb dL_law_607 (by decide) ?_
        refine lv_goto (tgt := 612) hx hb dL_law_608 (by decide) ?_
        refine pz_iadd hx hb dL_law_612 ?_
        refine lv_icmp_ne (tgt := 656) hx hb dL_law_613 (by decide) (fun h => absurd (congrArg zi (show tb1_56 = tb + 0 from (by rw [ht_60, pb_f (fun h => h (by omega))]))) h) (fun _ => ?_)
        refine lv_aload_n hx hb dL_law_616 rfl (lv_at hl 5 rfl) ?_
        refine lv_iload hx hb dL_law_617 (lv_at hl 11 rfl) ?_
        refine lv_iload hx hb dL_law_619 (lv_at hl 3 rfl) ?_
        refine lv_iconst (v := zi 2) hx hb dL_law_621 (by decide) ?_
        refine pz_idiv hx hb (by omega) dL_law_622 ?_
        refine lv_iload hx hb dL_law_623 (lv_at hl 3 rfl) ?_
        refine lv_iconst (v := zi 2) hx hb dL_law_625 (by decide) ?_
        refine pz_irem hx hb (by omega) dL_law_626 ?_
        refine lv_iconst (v := zi 0) hx hb dL_law_627 (by decide) ?_
        have hPc := hP.part (cx := []) [] rfl
        have hDc := hD.part (cx := []) [] (by decide) rfl
        have hFc := va_freeP (cx := []) hD hS hA [] rfl
        refine va_calli (va_runV (As := [.int (zi w), .int (zi (q_5 / 2)), .int (zi (q_5 % 2)), .int (zi 0)]) (rest := []) ⟨hx, hb, hml, hown, hts⟩ (c_X7_cell l dC dI cI cZ cM cT H.size hh ms1_58 gv tn tb1_56 κ1_63 w am aw av ax (pq_fl T q_5.toNat q_52 1 q_49) (-1) (-1) (-1) (q_5 / 2) (q_5 % 2) 0 hms1 hz_64 (by first | assumption | omega | rfl) hμ2 (by show (0 : Int) ≤ _ ∧ _ < pq_n T; omega) (by first | assumption | omega | rfl) (by first | assumption | omega | rfl)) (cwV 4 hts (zz_gV (goodIn_of _ (by decide +kernel)) zg_c_X7_cell) rfl rfl rfl (by decide +kernel) ⟨(by first | exact Nat.le_of_ble_eq_true rfl | omega), (by first | exact Nat.le_of_ble_eq_true rfl | omega)⟩) ⟨fun a U g mk q => by obtain ⟨q0, q1, qP, qK, qD⟩ := q; exact ⟨q0, q1, qP, va_K.moved (u := U) (U := U.calling g mk a) (Vm.Alike.refl U.vm) qK, qD⟩, va_recv hK hPc (ci := 6) (q0 := 0) rfl rfl, fun U hU hW => ⟨rfl, by rw [hU], by rw [hU]; exact hPc, va_K.moved hW.alike hK, hDc.weaken (fun _ _ _ _ => trivial)⟩⟩ rfl rfl hl.1 rfl (lv_room (by first | exact Nat.le_of_ble_eq_true rfl | omega)) dL_law_628 ⟨(by first | exact Nat.le_of_ble_eq_true rfl | omega), (by first | exact Nat.le_of_ble_eq_true rfl | omega)⟩) hS (fun q _ h => hFc q h) hFc (fun r_73 u t H1 locs ht hvm hw hB hz1 hk1 hS => ?_)
        obtain ⟨κ1_74, hz_75, hP1, hK1, hD1⟩ := hB
        rw [ht] at hP1
        obtain ⟨hP, hD⟩ := va_joinP (wr := []) (rx := []) (pl1 := (pq_WD cI cZ cM cT hh ms1_58 gv tn tb1_56 κ1_74)) hP hD [] [] rfl rfl (by decide) (by decide) hk1 hFc hP1 hD1
        generalize H1 = H at hP hS ⊢
        have hP : va_P (dC, dI) vwCl ([] ++ (pq_WD cI cZ cM cT hh ms1_58 gv tn tb1_56 κ1_74)) H := hP
        have hD : va_D A ([] ++ (pq_WD cI cZ cM cT hh ms1_58 gv tn tb1_56 κ1_74)) := hD
        refine W.widen (k := k0) (n := n0) (by first | exact Nat.le_of_ble_eq_true rfl | omega) (by first | exact Nat.le_of_ble_eq_true rfl | omega) ?_
        obtain rfl : r_73 = zi (pq_ca (pq_fl T q_5.toNat q_52 1 q_49) (2 * (q_5 / 2) + (q_5 % 2)) (0 : Int)) := hw
        refine pz_top (y := zi q_52) (congrArg zi (by rw [hq2]; exact pq_ca_fl0 hok (by omega))) ?_
        refine lv_iload hx hb dL_law_631 (lv_at hl 0 rfl) ?_
        refine lv_icmp_ne (tgt := 656) hx hb dL_law_633 (by decide) (fun h => absurd (congrArg zi (show q_52 = q_52 from rfl)) h) (fun _ => ?_)
        refine lv_aload_n hx hb dL_law_636 rfl (lv_at hl 5 rfl) ?_
        refine lv_iload hx hb dL_law_637 (lv_at hl 11 rfl) ?_
        refine lv_iload hx hb dL_law_639 (lv_at hl 3 rfl) ?_
        refine lv_iconst (v := zi 2) hx hb dL_law_641 (by decide) ?_
        refine pz_idiv hx hb (by omega) dL_law_642 ?_
        refine lv_iload hx hb dL_law_643 (lv_at hl 3 rfl) ?_
        refine lv_iconst (v := zi 2) hx hb dL_law_645 (by decide) ?_
        refine pz_irem hx hb (by omega) dL_law_646 ?_
        refine lv_iconst (v := zi 2) hx hb dL_law_647 (by decide) ?_
        have hPc := hP.part (cx := []) [] rfl
        have hDc := hD.part (cx := []) [] (by decide) rfl
        have hFc := va_freeP (cx := []) hD hS hA [] rfl
        refine va_calli (va_runV (As := [.int (zi w), .int (zi (q_5 / 2)), .int (zi (q_5 % 2)), .int (zi 2)]) (rest := []) ⟨hx, hb, hml, hown, hts⟩ (c_X7_cell l dC dI cI cZ cM cT H.size hh ms1_58 gv tn tb1_56 κ1_74 w am aw av ax (pq_fl T q_5.toNat q_52 1 q_49) (-1) (-1) (-1) (q_5 / 2) (q_5 % 2) 2 hms1 hz_75 (by first | assumption | omega | rfl) hμ2 (by show (0 : Int) ≤ _ ∧ _ < pq_n T; omega) (by first | assumption | omega | rfl) (by first | assumption | omega | rfl)) (cwV 4 hts (zz_gV (goodIn_of _ (by decide +kernel)) zg_c_X7_cell) rfl rfl rfl (by decide +kernel) ⟨(by first | exact Nat.le_of_ble_eq_true rfl | omega), (by first | exact Nat.le_of_ble_eq_true rfl | omega)⟩) ⟨fun a U g mk q => by obtain ⟨q0, q1, qP, qK, qD⟩ := q; exact ⟨q0, q1, qP, va_K.moved (u := U) (U := U.calling g mk a) (Vm.Alike.refl U.vm) qK, qD⟩, va_recv hK hPc (ci := 6) (q0 := 0) rfl rfl, fun U hU hW => ⟨rfl, by rw [hU], by rw [hU]; exact hPc, va_K.moved hW.alike hK, hDc.weaken (fun _ _ _ _ => trivial)⟩⟩ rfl rfl hl.1 rfl (lv_room (by first | exact Nat.le_of_ble_eq_true rfl | omega)) dL_law_648 ⟨(by first | exact Nat.le_of_ble_eq_true rfl | omega), (by first | exact Nat.le_of_ble_eq_true rfl | omega)⟩) hS (fun q _ h => hFc q h) hFc (fun r_76 u t H1 locs ht hvm hw hB hz1 hk1 hS => ?_)
        obtain ⟨κ1_77, hz_78, hP1, hK1, hD1⟩ := hB
        rw [ht] at hP1
        obtain ⟨hP, hD⟩ := va_joinP (wr := []) (rx := []) (pl1 := (pq_WD cI cZ cM cT hh ms1_58 gv tn tb1_56 κ1_77)) hP hD [] [] rfl rfl (by decide) (by decide) hk1 hFc hP1 hD1
        generalize H1 = H at hP hS ⊢
        have hP : va_P (dC, dI) vwCl ([] ++ (pq_WD cI cZ cM cT hh ms1_58 gv tn tb1_56 κ1_77)) H := hP
        have hD : va_D A ([] ++ (pq_WD cI cZ cM cT hh ms1_58 gv tn tb1_56 κ1_77)) := hD
        refine W.widen (k := k0) (n := n0) (by first | exact Nat.le_of_ble_eq_true rfl | omega) (by first | exact Nat.le_of_ble_eq_true rfl | omega) ?_
        obtain rfl : r_76 = zi (pq_ca (pq_fl T q_5.toNat q_52 1 q_49) (2 * (q_5 / 2) + (q_5 % 2)) (2 : Int)) := hw
        refine pz_top (y := zi q_49) (congrArg zi (by rw [hq2]; exact pq_ca_fl2 hok (by omega))) ?_
        refine lv_iload hx hb dL_law_651 (lv_at hl 1 rfl) ?_
        refine lv_icmp_eq (tgt := 752) hx hb dL_law_653 (by decide) (fun _ => ?_) (fun h => absurd (congrArg zi (show q_49 = q_49 from rfl)) h)
        exact K752 _ _ _ _ _ _ _ _ _ _ (by omega) (by omega) hms1 hlen1 hz_78 hP hD hS (lv_sub hl [4, 5, 6, 7, 8] rfl)
