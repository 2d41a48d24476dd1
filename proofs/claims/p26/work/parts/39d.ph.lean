set_option maxHeartbeats 4000000 in
set_option maxRecDepth 100000 in
theorem law_62 {p : Program} {l : Launch} {e : Env} {s : State} {m : MethodId} {below : List Frame} {meth : Method} {c : Code} {dC : Nat → ClassId} {dI : Nat → Nat → Nat} {cI cZ cM cT : ClassId} (hnt : l.stackTraces = false) {a0 b L hh : Nat} {xs : Nat → Int32} (hL : L ≤ 260) (C0 : lw_At p s m meth c b L xs) (hts : ∀ w ∈ zs_law, w.before #[Value.ref b] s = true) {A : Nat → Prop} (hA : ∀ q : Nat, s.heap.size ≤ q → A q) (hA2 : ∀ q : Nat, A q → s.heap.size ≤ q) (hZ : zB a0 A s s.heap) (hK : va_K (dC, dI) vwCl (zT4 cI cZ cM cT) s) {ms : List pq_M} {gv tn tb : Int} (hms : pq_mo ms) (hlen : 1 ≤ ms.length) {j : Int} (hj : 0 ≤ j ∧ j ≤ 50) {k0 n0 : Nat} (hk0 : k0 ≤ 650 ∧ n0 ≤ 15500) {κ : pq_S} (hκ : pq_Sok κ) {H : Heap} {locs : List Loc} {ls : Array Slot} (hP : va_P (dC, dI) vwCl ([] ++ (pq_WD cI cZ cM cT hh ms gv tn tb κ)) H) (hD : va_D A ([] ++ (pq_WD cI cZ cM cT hh ms gv tn tb κ))) (hS : va_S A s.heap H locs) (hl : lv_has ls 14 [(0, .ref b), (1, .ref hh), (2, .int (zi gv)), (3, .int (zi tn)), (4, .int (zi j))]) (K188 : j < 50 → ∀ (x9 : Int32) (w : Int) (am aw av ax : Nat) (T : pq_T) (kk ka kb : Int) (κ : pq_S) (H : Heap) (locs : List Loc) (ls : Array Slot), (0 ≤ w ∧ w < (ms.length : Int)) → ms[w.toNat]? = some (am, aw, av, ax, T, kk, ka, kb) → pq_Sok κ → va_P (dC, dI) vwCl ([] ++ (pq_WD cI cZ cM cT hh ms gv tn tb κ)) H → va_D A ([] ++ (pq_WD cI cZ cM cT hh ms gv tn tb κ)) → va_S A s.heap H locs → lv_has ls 14 [(0, .ref b), (1, .ref hh), (2, .int (zi gv)), (3, .int (zi tn)), (4, .int (zi j)), (5, .int x9), (6, .int (zi (ms.length : Int))), (7, .int (zi w)), (8, .int (zi kk)), (9, .int (zi tb))] → W p l e room_1 s m #[Value.ref b] below meth c H locs k0 n0 (lw_Z below #[Value.ref b] s) (F0 m 188 ls [])) (K382 : j < 50 → ∀ (x9 : Int32) (w : Int) (am aw av ax : Nat) (T : pq_T) (kk ka kb : Int) (κ : pq_S) (H : Heap) (locs : List Loc) (ls : Array Slot), (0 ≤ w ∧ w < (ms.length : Int)) → ms[w.toNat]? = some (am, aw, av, ax, T, kk, ka, kb) → pq_Sok κ → va_P (dC, dI) vwCl ([] ++ (pq_WD cI cZ cM cT hh ms gv tn tb κ)) H → va_D A ([] ++ (pq_WD cI cZ cM cT hh ms gv tn tb κ)) → va_S A s.heap H locs → lv_has ls 14 [(0, .ref b), (1, .ref hh), (2, .int (zi gv)), (3, .int (zi tn)), (4, .int (zi j)), (5, .int x9), (6, .int (zi (ms.length : Int))), (7, .int (zi w)), (8, .int (zi kk)), (9, .int (zi tb))] → W p l e room_1 s m #[Value.ref b] below meth c H locs k0 n0 (lw_Z below #[Value.ref b] s) (F0 m 382 ls [])) (K405 : j < 50 → ∀ (x9 : Int32) (w : Int) (am aw av ax : Nat) (T : pq_T) (kk ka kb : Int) (κ : pq_S) (H : Heap) (locs : List Loc) (ls : Array Slot), (0 ≤ w ∧ w < (ms.length : Int)) → ms[w.toNat]? = some (am, aw, av, ax, T, kk, ka, kb) → pq_Sok κ → va_P (dC, dI) vwCl ([] ++ (pq_WD cI cZ cM cT hh ms gv tn tb κ)) H → va_D A ([] ++ (pq_WD cI cZ cM cT hh ms gv tn tb κ)) → va_S A s.heap H locs → lv_has ls 14 [(0, .ref b), (1, .ref hh), (2, .int (zi gv)), (3, .int (zi tn)), (4, .int (zi j)), (5, .int x9), (6, .int (zi (ms.length : Int))), (7, .int (zi w)), (8, .int (zi kk)), (9, .int (zi tb))] → W p l e room_1 s m #[Value.ref b] below meth c H locs k0 n0 (lw_Z below #[Value.ref b] s) (F0 m 405 ls [])) (K463 : j < 50 → ∀ (x9 : Int32) (w : Int) (am aw av ax : Nat) (T : pq_T) (kk ka kb : Int) (κ : pq_S) (H : Heap) (locs : List Loc) (ls : Array Slot), (0 ≤ w ∧ w < (ms.length : Int)) → ms[w.toNat]? = some (am, aw, av, ax, T, kk, ka, kb) → pq_Sok κ → va_P (dC, dI) vwCl ([] ++ (pq_WD cI cZ cM cT hh ms gv tn tb κ)) H → va_D A ([] ++ (pq_WD cI cZ cM cT hh ms gv tn tb κ)) → va_S A s.heap H locs → lv_has ls 14 [(0, .ref b), (1, .ref hh), (2, .int (zi gv)), (3, .int (zi tn)), (4, .int (zi j)), (5, .int x9), (6, .int (zi (ms.length : Int))), (7, .int (zi w)), (8, .int (zi kk)), (9, .int (zi tb))] → W p l e room_1 s m #[Value.ref b] below meth c H locs k0 n0 (lw_Z below #[Value.ref b] s) (F0 m 463 ls [])) (K658 : j < 50 → ∀ (x9 : Int32) (w : Int) (am aw av ax : Nat) (T : pq_T) (kk ka kb : Int) (κ : pq_S) (H : Heap) (locs : List Loc) (ls : Array Slot), (0 ≤ w ∧ w < (ms.length : Int)) → ms[w.toNat]? = some (am, aw, av, ax, T, kk, ka, kb) → pq_Sok κ → va_P (dC, dI) vwCl ([] ++ (pq_WD cI cZ cM cT hh ms gv tn tb κ)) H → va_D A ([] ++ (pq_WD cI cZ cM cT hh ms gv tn tb κ)) → va_S A s.heap H locs → lv_has ls 14 [(0, .ref b), (1, .ref hh), (2, .int (zi gv)), (3, .int (zi tn)), (4, .int (zi j)), (5, .int x9), (6, .int (zi (ms.length : Int))), (7, .int (zi w)), (8, .int (zi kk)), (9, .int (zi tb))] → W p l e room_1 s m #[Value.ref b] below meth c H locs k0 n0 (lw_Z below #[Value.ref b] s) (F0 m 658 ls [])) (K732 : j < 50 → ∀ (x9 : Int32) (w : Int) (am aw av ax : Nat) (T : pq_T) (kk ka kb : Int) (κ : pq_S) (H : Heap) (locs : List Loc) (ls : Array Slot), (0 ≤ w ∧ w < (ms.length : Int)) → ms[w.toNat]? = some (am, aw, av, ax, T, kk, ka, kb) → pq_Sok κ → va_P (dC, dI) vwCl ([] ++ (pq_WD cI cZ cM cT hh ms gv tn tb κ)) H → va_D A ([] ++ (pq_WD cI cZ cM cT hh ms gv tn tb κ)) → va_S A s.heap H locs → lv_has ls 14 [(0, .ref b), (1, .ref hh), (2, .int (zi gv)), (3, .int (zi tn)), (4, .int (zi j)), (5, .int x9), (6, .int (zi (ms.length : Int))), (7, .int (zi w)), (8, .int (zi kk)), (9, .int (zi tb))] → W p l e room_1 s m #[Value.ref b] below meth c H locs k0 n0 (lw_Z below #[Value.ref b] s) (F0 m 732 ls [])) (K795 : ∀ (ms : List pq_M) (gv tn tb : Int) (κ : pq_S) (k1 n1 : Nat) (H : Heap) (locs : List Loc) (ls : Array Slot), k1 ≤ 700 → n1 ≤ 16000 → pq_mo ms → 1 ≤ ms.length → pq_Sok κ → va_P (dC, dI) vwCl ([] ++ (pq_WD cI cZ cM cT hh ms gv tn tb κ)) H → va_D A ([] ++ (pq_WD cI cZ cM cT hh ms gv tn tb κ)) → va_S A s.heap H locs → lv_has ls 14 [(0, .ref b), (1, .ref hh)] → W p l e room_1 s m #[Value.ref b] below meth c H locs k1 n1 (lw_Z below #[Value.ref b] s) (F0 m 795 ls [])) : W p l e room_1 s m #[Value.ref b] below meth c H locs k0 n0 (lw_Z below #[Value.ref b] s) (F0 m 62 ls []) := by
  obtain ⟨hx, hb, hr, hml, hown, -, hX0, hbl, hlocks, hgv⟩ := id C0
  have hown : s.vm.findClass RL = some m.cls := hown
  have hX : zX A b L xs s s.heap := ⟨hX0, fun h => absurd (hA2 b h) (Nat.not_le.mpr hbl), hbl⟩
  have hR1 : 600000 ≤ room_1.cells := Nat.le_of_ble_eq_true rfl
  have hR2 : 7300000 ≤ room_1.slots := Nat.le_of_ble_eq_true rfl
  have hms12 := hms.1
  refine lv_iload hx hb dL_law_62 (lv_at hl 4 rfl) ?_
  refine lv_bipush (v := zi 50) hx hb dL_law_64 (by decide) ?_
  refine pz_icmp_ge (tgt := 795) hx hb (by omega) dL_law_66 (by decide) (fun c_1 => ?_) (fun c_1 => ?_)
  · exact K795 _ _ _ _ _ _ _ _ _ _ (by omega) (by omega) hms hlen hκ hP hD hS (lv_sub hl [0, 1] rfl)
  · refine lv_aload_n hx hb dL_law_69 rfl (lv_at hl 0 rfl) ?_
    refine lv_bipush (v := zi 11) hx hb dL_law_70 (by decide) ?_
    refine lv_iload hx hb dL_law_72 (lv_at hl 4 rfl) ?_
    refine lv_bipush (v := zi 20) hx hb dL_law_74 (by decide) ?_
    refine pz_irem hx hb (by omega) dL_law_76 ?_
    refine pz_iadd hx hb dL_law_77 ?_
    have hPc := hP.sub (ws' := []) [] rfl
    have hDc := hD.sub (ws' := []) [] (by decide) rfl
    have hFc := va_free (wc := []) hD hS hA [] rfl
    have hXc := ((hX.kept hS.1 hS.2.1).narrow hFc)
    refine va_calli (va_runS (As := [.ref b, .int (zi (11 + (j % 20)))]) (rest := []) ⟨hx, hb, hml, hown, hts⟩ (c_L_cell l dC dI cI cZ cM cT H.size b L xs (11 + (j % 20)) (by first | assumption | omega | rfl) (by first | assumption | omega | rfl)) (va_cwS 2 hts (zz_gS (goodIn_of _ (by decide +kernel)) zg_c_L_cell) rfl rfl rfl (by decide +kernel) ⟨(by first | exact Nat.le_of_ble_eq_true rfl | omega), (by first | exact Nat.le_of_ble_eq_true rfl | omega)⟩) ⟨fun a U g mk q => by obtain ⟨q0, q1, qP, qK, qD, qX⟩ := q; exact ⟨q0, q1, qP, va_K.moved (u := U) (U := U.calling g mk a) (Vm.Alike.refl U.vm) qK, qD, qX.call⟩, fun U hU hW => ⟨rfl, by rw [hU], by rw [hU]; exact hPc, va_K.moved hW.alike hK, hDc.weaken (fun _ _ _ _ => trivial), by rw [hU]; exact hXc.warm hW⟩⟩ rfl rfl hl.1 rfl (lv_room (by first | exact Nat.le_of_ble_eq_true rfl | omega)) dL_law_78 ⟨(by first | exact Nat.le_of_ble_eq_true rfl | omega), (by first | exact Nat.le_of_ble_eq_true rfl | omega)⟩) hS (fun q _ h => hFc q h) hFc (fun r_2 u t H1 locs ht hvm hw hB hz1 hk1 hS => ?_)
    obtain ⟨hP1, hK1, hD1⟩ := hB
    rw [ht] at hP1
    obtain ⟨hP, hD⟩ := va_joinQ (wr := []) (w1 := []) (pl := (pq_WD cI cZ cM cT hh ms gv tn tb κ)) hP hD [] [] rfl rfl (by decide) (by decide) hk1 hFc hP1 hD1
    generalize H1 = H at hP hS ⊢
    have hP : va_P (dC, dI) vwCl ([] ++ (pq_WD cI cZ cM cT hh ms gv tn tb κ)) H := hP
    have hD : va_D A ([] ++ (pq_WD cI cZ cM cT hh ms gv tn tb κ)) := hD
    refine W.widen (k := k0) (n := n0) (by first | exact Nat.le_of_ble_eq_true rfl | omega) (by first | exact Nat.le_of_ble_eq_true rfl | omega) ?_
    refine lv_iload hx hb dL_law_81 (lv_at hl 4 rfl) ?_
    refine lv_bipush (v := zi 20) hx hb dL_law_83 (by decide) ?_
    refine pz_idiv hx hb (by omega) dL_law_85 ?_
    refine lv_iconst (v := zi 5) hx hb dL_law_86 (by decide) ?_
    refine pz_imul hx hb dL_law_87 ?_
    refine lv_ishr hx hb dL_law_88 ?_
    refine lv_istore (lv' := [(5, .int (r_2 >>> ((zi ((j / 20) * 5)) &&& 31))), (0, .ref b), (1, .ref hh), (2, .int (zi gv)), (3, .int (zi tn)), (4, .int (zi j))]) hx hb dL_law_89 hl (by decide) rfl (fun ls hl => ?_)
    refine lv_aload_n hx hb dL_law_91 rfl (lv_at hl 2 rfl) ?_
    refine lv_iconst (v := zi 0) hx hb dL_law_92 (by decide) ?_
    have hPc := hP.part (cx := []) [] rfl
    have hDc := hD.part (cx := []) [] (by decide) rfl
    have hFc := va_freeP (cx := []) hD hS hA [] rfl
    refine va_calli (va_runV (As := [.int (zi 0)]) (rest := []) ⟨hx, hb, hml, hown, hts⟩ (c_X7_many l dC dI cI cZ cM cT H.size hh ms gv tn tb κ 0 (by first | assumption | omega | rfl) hκ (by first | assumption | omega | rfl)) (cwV 1 hts (zz_gV (goodIn_of _ (by decide +kernel)) zg_c_X7_many) rfl rfl rfl (by decide +kernel) ⟨(by first | exact Nat.le_of_ble_eq_true rfl | omega), (by first | exact Nat.le_of_ble_eq_true rfl | omega)⟩) ⟨fun a U g mk q => by obtain ⟨q0, q1, qP, qK, qD⟩ := q; exact ⟨q0, q1, qP, va_K.moved (u := U) (U := U.calling g mk a) (Vm.Alike.refl U.vm) qK, qD⟩, va_recv hK hPc (ci := 6) (q0 := 0) rfl rfl, fun U hU hW => ⟨rfl, by rw [hU], by rw [hU]; exact hPc, va_K.moved hW.alike hK, hDc.weaken (fun _ _ _ _ => trivial)⟩⟩ rfl rfl hl.1 rfl (lv_room (by first | exact Nat.le_of_ble_eq_true rfl | omega)) dL_law_93 ⟨(by first | exact Nat.le_of_ble_eq_true rfl | omega), (by first | exact Nat.le_of_ble_eq_true rfl | omega)⟩) hS (fun q _ h => hFc q h) hFc (fun r_3 u t H1 locs ht hvm hw hB hz1 hk1 hS => ?_)
    obtain ⟨hP1, hK1, hD1⟩ := hB
    rw [ht] at hP1
    obtain ⟨hP, hD⟩ := va_joinP (wr := []) (rx := []) (pl1 := (pq_WD cI cZ cM cT hh ms gv tn tb κ)) hP hD [] [] rfl rfl (by decide) (by decide) hk1 hFc hP1 hD1
    generalize H1 = H at hP hS ⊢
    have hP : va_P (dC, dI) vwCl ([] ++ (pq_WD cI cZ cM cT hh ms gv tn tb κ)) H := hP
    have hD : va_D A ([] ++ (pq_WD cI cZ cM cT hh ms gv tn tb κ)) := hD
    refine W.widen (k := k0) (n := n0) (by first | exact Nat.le_of_ble_eq_true rfl | omega) (by first | exact Nat.le_of_ble_eq_true rfl | omega) ?_
    obtain rfl : r_3 = zi (pq_ma ms gv tn tb (0 : Int)) := hw
    refine pz_top (y := zi (ms.length : Int)) (congrArg zi (rfl)) ?_
    refine lv_istore (lv' := [(6, .int (zi (ms.length : Int))), (5, .int (r_2 >>> ((zi ((j / 20) * 5)) &&& 31))), (0, .ref b), (1, .ref hh), (2, .int (zi gv)), (3, .int (zi tn)), (4, .int (zi j))]) hx hb dL_law_96 hl (by decide) rfl (fun ls hl => ?_)
    refine lv_iload hx hb dL_law_98 (lv_at hl 1 rfl) ?_
    refine lv_iconst (v := zi 4) hx hb dL_law_100 (by decide) ?_
    refine lv_ishr hx hb dL_law_101 ?_
    refine lv_iload hx hb dL_law_102 (lv_at hl 0 rfl) ?_
    have hPc := hP.sub (ws' := []) [] rfl
    have hDc := hD.sub (ws' := []) [] (by decide) rfl
    have hFc := va_free (wc := []) hD hS hA [] rfl
    refine va_calli (va_runS (As := [.int ((r_2 >>> ((zi ((j / 20) * 5)) &&& 31)) >>> ((zi 4) &&& 31)), .int (zi (ms.length : Int))]) (rest := []) ⟨hx, hb, hml, hown, hts⟩ (c_L_below l dC dI cI cZ cM cT H.size ((r_2 >>> ((zi ((j / 20) * 5)) &&& 31)) >>> ((zi 4) &&& 31)) (ms.length : Int) (by first | assumption | omega | rfl)) (va_cwS 2 hts (zz_gS (goodIn_of _ (by decide +kernel)) zg_c_L_below) rfl rfl rfl (by decide +kernel) ⟨(by first | exact Nat.le_of_ble_eq_true rfl | omega), (by first | exact Nat.le_of_ble_eq_true rfl | omega)⟩) ⟨fun a U g mk q => by obtain ⟨q0, q1, qP, qK, qD⟩ := q; exact ⟨q0, q1, qP, va_K.moved (u := U) (U := U.calling g mk a) (Vm.Alike.refl U.vm) qK, qD⟩, fun U hU hW => ⟨rfl, by rw [hU], by rw [hU]; exact hPc, va_K.moved hW.alike hK, hDc.weaken (fun _ _ _ _ => trivial)⟩⟩ rfl rfl hl.1 rfl (lv_room (by first | exact Nat.le_of_ble_eq_true rfl | omega)) dL_law_104 ⟨(by first | exact Nat.le_of_ble_eq_true rfl | omega), (by first | exact Nat.le_of_ble_eq_true rfl | omega)⟩) hS (fun q _ h => hFc q h) hFc (fun r_4 u t H1 locs ht hvm hw hB hz1 hk1 hS => ?_)
    obtain ⟨hP1, hK1, hD1⟩ := hB
    rw [ht] at hP1
    obtain ⟨hP, hD⟩ := va_joinQ (wr := []) (w1 := []) (pl := (pq_WD cI cZ cM cT hh ms gv tn tb κ)) hP hD [] [] rfl rfl (by decide) (by decide) hk1 hFc hP1 hD1
    generalize H1 = H at hP hS ⊢
    have hP : va_P (dC, dI) vwCl ([] ++ (pq_WD cI cZ cM cT hh ms gv tn tb κ)) H := hP
    have hD : va_D A ([] ++ (pq_WD cI cZ cM cT hh ms gv tn tb κ)) := hD
    refine W.widen (k := k0) (n := n0) (by first | exact Nat.le_of_ble_eq_true rfl | omega) (by first | exact Nat.le_of_ble_eq_true rfl | omega) ?_
    obtain ⟨q_5, rfl, hq_6⟩ := hw
    obtain ⟨⟨am, aw, av, ax, T, kk, ka, kb⟩, hμ⟩ : ∃ μ, ms[q_5.toNat]? = some μ := ⟨_, List.getElem?_eq_getElem (by omega)⟩
    have hkr := pq_mok_k (pq_mo_at hms hμ)
    refine lv_istore (lv' := [(7, .int (zi q_5)), (6, .int (zi (ms.length : Int))), (5, .int (r_2 >>> ((zi ((j / 20) * 5)) &&& 31))), (0, .ref b), (1, .ref hh), (2, .int (zi gv)), (3, .int (zi tn)), (4, .int (zi j))]) hx hb dL_law_107 hl (by decide) rfl (fun ls hl => ?_)
    refine lv_aload_n hx hb dL_law_109 rfl (lv_at hl 4 rfl) ?_
    refine lv_iload hx hb dL_law_110 (lv_at hl 0 rfl) ?_
    refine lv_iconst (v := zi 2) hx hb dL_law_112 (by decide) ?_
    have hPc := hP.part (cx := []) [] rfl
    have hDc := hD.part (cx := []) [] (by decide) rfl
    have hFc := va_freeP (cx := []) hD hS hA [] rfl
    refine va_calli (va_runV (As := [.int (zi q_5), .int (zi 2)]) (rest := []) ⟨hx, hb, hml, hown, hts⟩ (c_X7_ofMachine l dC dI cI cZ cM cT H.size hh ms gv tn tb κ q_5 am aw av ax T kk ka kb 2 (by first | assumption | omega | rfl) hκ (by first | assumption | omega | rfl) hμ (by first | assumption | omega | rfl)) (cwV 2 hts (zz_gV (goodIn_of _ (by decide +kernel)) zg_c_X7_ofMachine) rfl rfl rfl (by decide +kernel) ⟨(by first | exact Nat.le_of_ble_eq_true rfl | omega), (by first | exact Nat.le_of_ble_eq_true rfl | omega)⟩) ⟨fun a U g mk q => by obtain ⟨q0, q1, qP, qK, qD⟩ := q; exact ⟨q0, q1, qP, va_K.moved (u := U) (U := U.calling g mk a) (Vm.Alike.refl U.vm) qK, qD⟩, va_recv hK hPc (ci := 6) (q0 := 0) rfl rfl, fun U hU hW => ⟨rfl, by rw [hU], by rw [hU]; exact hPc, va_K.moved hW.alike hK, hDc.weaken (fun _ _ _ _ => trivial)⟩⟩ rfl rfl hl.1 rfl (lv_room (by first | exact Nat.le_of_ble_eq_true rfl | omega)) dL_law_113 ⟨(by first | exact Nat.le_of_ble_eq_true rfl | omega), (by first | exact Nat.le_of_ble_eq_true rfl | omega)⟩) hS (fun q _ h => hFc q h) hFc (fun r_7 u t H1 locs ht hvm hw hB hz1 hk1 hS => ?_)
    obtain ⟨κ1_8, hz_9, hP1, hK1, hD1⟩ := hB
    rw [ht] at hP1
    obtain ⟨hP, hD⟩ := va_joinP (wr := []) (rx := []) (pl1 := (pq_WD cI cZ cM cT hh ms gv tn tb κ1_8)) hP hD [] [] rfl rfl (by decide) (by decide) hk1 hFc hP1 hD1
    generalize H1 = H at hP hS ⊢
    have hP : va_P (dC, dI) vwCl ([] ++ (pq_WD cI cZ cM cT hh ms gv tn tb κ1_8)) H := hP
    have hD : va_D A ([] ++ (pq_WD cI cZ cM cT hh ms gv tn tb κ1_8)) := hD
    refine W.widen (k := k0) (n := n0) (by first | exact Nat.le_of_ble_eq_true rfl | omega) (by first | exact Nat.le_of_ble_eq_true rfl | omega) ?_
    obtain rfl : r_7 = zi (pq_om T kk ka kb (2 : Int)) := hw
    refine pz_top (y := zi kk) (congrArg zi (rfl)) ?_
    refine lv_istore (lv' := [(8, .int (zi kk)), (7, .int (zi q_5)), (6, .int (zi (ms.length : Int))), (5, .int (r_2 >>> ((zi ((j / 20) * 5)) &&& 31))), (0, .ref b), (1, .ref hh), (2, .int (zi gv)), (3, .int (zi tn)), (4, .int (zi j))]) hx hb dL_law_116 hl (by decide) rfl (fun ls hl => ?_)
    refine lv_aload_n hx hb dL_law_118 rfl (lv_at hl 5 rfl) ?_
    refine lv_bipush (v := zi 9) hx hb dL_law_119 (by decide) ?_
    have hPc := hP.part (cx := []) [] rfl
    have hDc := hD.part (cx := []) [] (by decide) rfl
    have hFc := va_freeP (cx := []) hD hS hA [] rfl
    refine va_calli (va_runV (As := [.int (zi 9)]) (rest := []) ⟨hx, hb, hml, hown, hts⟩ (c_X7_many l dC dI cI cZ cM cT H.size hh ms gv tn tb κ1_8 9 (by first | assumption | omega | rfl) hz_9 (by first | assumption | omega | rfl)) (cwV 1 hts (zz_gV (goodIn_of _ (by decide +kernel)) zg_c_X7_many) rfl rfl rfl (by decide +kernel) ⟨(by first | exact Nat.le_of_ble_eq_true rfl | omega), (by first | exact Nat.le_of_ble_eq_true rfl | omega)⟩) ⟨fun a U g mk q => by obtain ⟨q0, q1, qP, qK, qD⟩ := q; exact ⟨q0, q1, qP, va_K.moved (u := U) (U := U.calling g mk a) (Vm.Alike.refl U.vm) qK, qD⟩, va_recv hK hPc (ci := 6) (q0 := 0) rfl rfl, fun U hU hW => ⟨rfl, by rw [hU], by rw [hU]; exact hPc, va_K.moved hW.alike hK, hDc.weaken (fun _ _ _ _ => trivial)⟩⟩ rfl rfl hl.1 rfl (lv_room (by first | exact Nat.le_of_ble_eq_true rfl | omega)) dL_law_121 ⟨(by first | exact Nat.le_of_ble_eq_true rfl | omega), (by first | exact Nat.le_of_ble_eq_true rfl | omega)⟩) hS (fun q _ h => hFc q h) hFc (fun r_10 u t H1 locs ht hvm hw hB hz1 hk1 hS => ?_)
    obtain ⟨hP1, hK1, hD1⟩ := hB
    rw [ht] at hP1
    obtain ⟨hP, hD⟩ := va_joinP (wr := []) (rx := []) (pl1 := (pq_WD cI cZ cM cT hh ms gv tn tb κ1_8)) hP hD [] [] rfl rfl (by decide) (by decide) hk1 hFc hP1 hD1
    generalize H1 = H at hP hS ⊢
    have hP : va_P (dC, dI) vwCl ([] ++ (pq_WD cI cZ cM cT hh ms gv tn tb κ1_8)) H := hP
    have hD : va_D A ([] ++ (pq_WD cI cZ cM cT hh ms gv tn tb κ1_8)) := hD
    refine W.widen (k := k0) (n := n0) (by first | exact Nat.le_of_ble_eq_true rfl | omega) (by first | exact Nat.le_of_ble_eq_true rfl | omega) ?_
    obtain rfl : r_10 = zi (pq_ma ms gv tn tb (9 : Int)) := hw
    refine pz_top (y := zi tb) (congrArg zi (rfl)) ?_
    refine lv_istore (lv' := [(9, .int (zi tb)), (8, .int (zi kk)), (7, .int (zi q_5)), (6, .int (zi (ms.length : Int))), (5, .int (r_2 >>> ((zi ((j / 20) * 5)) &&& 31))), (0, .ref b), (1, .ref hh), (2, .int (zi gv)), (3, .int (zi tn)), (4, .int (zi j))]) hx hb dL_law_124 hl (by decide) rfl (fun ls hl => ?_)
    refine lv_iload hx hb dL_law_126 (lv_at hl 4 rfl) ?_
    refine lv_bipush (v := zi 13) hx hb dL_law_128 (by decide) ?_
    have hPc := hP.sub (ws' := []) [] rfl
    have hDc := hD.sub (ws' := []) [] (by decide) rfl
    have hFc := va_free (wc := []) hD hS hA [] rfl
    refine va_calli (va_runS (As := [.int (r_2 >>> ((zi ((j / 20) * 5)) &&& 31)), .int (zi 13)]) (rest := []) ⟨hx, hb, hml, hown, hts⟩ (c_L_below l dC dI cI cZ cM cT H.size (r_2 >>> ((zi ((j / 20) * 5)) &&& 31)) 13 (by first | assumption | omega | rfl)) (va_cwS 2 hts (zz_gS (goodIn_of _ (by decide +kernel)) zg_c_L_below) rfl rfl rfl (by decide +kernel) ⟨(by first | exact Nat.le_of_ble_eq_true rfl | omega), (by first | exact Nat.le_of_ble_eq_true rfl | omega)⟩) ⟨fun a U g mk q => by obtain ⟨q0, q1, qP, qK, qD⟩ := q; exact ⟨q0, q1, qP, va_K.moved (u := U) (U := U.calling g mk a) (Vm.Alike.refl U.vm) qK, qD⟩, fun U hU hW => ⟨rfl, by rw [hU], by rw [hU]; exact hPc, va_K.moved hW.alike hK, hDc.weaken (fun _ _ _ _ => trivial)⟩⟩ rfl rfl hl.1 rfl (lv_room (by first | exact Nat.le_of_ble_eq_true rfl | omega)) dL_law_130 ⟨(by first | exact Nat.le_of_ble_eq_true rfl | omega), (by first | exact Nat.le_of_ble_eq_true rfl | omega)⟩) hS (fun q _ h => hFc q h) hFc (fun r_11 u t H1 locs ht hvm hw hB hz1 hk1 hS => ?_)
    obtain ⟨hP1, hK1, hD1⟩ := hB
    rw [ht] at hP1
    obtain ⟨hP, hD⟩ := va_joinQ (wr := []) (w1 := []) (pl := (pq_WD cI cZ cM cT hh ms gv tn tb κ1_8)) hP hD [] [] rfl rfl (by decide) (by decide) hk1 hFc hP1 hD1
    generalize H1 = H at hP hS ⊢
    have hP : va_P (dC, dI) vwCl ([] ++ (pq_WD cI cZ cM cT hh ms gv tn tb κ1_8)) H := hP
    have hD : va_D A ([] ++ (pq_WD cI cZ cM cT hh ms gv tn tb κ1_8)) := hD
    refine W.widen (k := k0) (n := n0) (by first | exact Nat.le_of_ble_eq_true rfl | omega) (by first | exact Nat.le_of_ble_eq_true rfl | omega) ?_
    obtain ⟨q_12, rfl, hq_13⟩ := hw
    rcases (show q_12 = 0 ∨ q_12 = 1 ∨ q_12 = 2 ∨ q_12 = 3 ∨ q_12 = 4 ∨ q_12 = 5 ∨ q_12 = 6 ∨ q_12 = 7 ∨ q_12 = 8 ∨ q_12 = 9 ∨ q_12 = 10 ∨ q_12 = 11 ∨ q_12 = 12 from by omega) with c_14 | c_14 | c_14 | c_14 | c_14 | c_14 | c_14 | c_14 | c_14 | c_14 | c_14 | c_14 | c_14
    · refine pz_top (y := zi 0) (congrArg zi c_14) ?_
      refine lv_tableIn (tgt := 188) hx hb dL_law_133 (by decide) (by decide) rfl (by decide) ?_
      exact K188 (by omega) _ _ _ _ _ _ _ _ _ _ _ _ _ _ hq_6 hμ hz_9 hP hD hS (lv_sub hl [5, 6, 7, 8, 9, 4, 3, 2, 1, 0] rfl)
    · refine pz_top (y := zi 1) (congrArg zi c_14) ?_
      refine lv_tableIn (tgt := 188) hx hb dL_law_133 (by decide) (by decide) rfl (by decide) ?_
      exact K188 (by omega) _ _ _ _ _ _ _ _ _ _ _ _ _ _ hq_6 hμ hz_9 hP hD hS (lv_sub hl [5, 6, 7, 8, 9, 4, 3, 2, 1, 0] rfl)
    · refine pz_top (y := zi 2) (congrArg zi c_14) ?_
      refine lv_tableIn (tgt := 188) hx hb dL_law_133 (by decide) (by decide) rfl (by decide) ?_
      exact K188 (by omega) _ _ _ _ _ _ _ _ _ _ _ _ _ _ hq_6 hμ hz_9 hP hD hS (lv_sub hl [5, 6, 7, 8, 9, 4, 3, 2, 1, 0] rfl)
    · refine pz_top (y := zi 3) (congrArg zi c_14) ?_
      refine lv_tableIn (tgt := 382) hx hb dL_law_133 (by decide) (by decide) rfl (by decide) ?_
      exact K382 (by omega) _ _ _ _ _ _ _ _ _ _ _ _ _ _ hq_6 hμ hz_9 hP hD hS (lv_sub hl [5, 6, 7, 8, 9, 4, 3, 2, 1, 0] rfl)
    · refine pz_top (y := zi 4) (congrArg zi c_14) ?_
      refine lv_tableIn (tgt := 382) hx hb dL_law_133 (by decide) (by decide) rfl (by decide) ?_
      exact K382 (by omega) _ _ _ _ _ _ _ _ _ _ _ _ _ _ hq_6 hμ hz_9 hP hD hS (lv_sub hl [5, 6, 7, 8, 9, 4, 3, 2, 1, 0] rfl)
    · refine pz_top (y := zi 5) (congrArg zi c_14) ?_
      refine lv_tableIn (tgt := 405) hx hb dL_law_133 (by decide) (by decide) rfl (by decide) ?_
      exact K405 (by omega) _ _ _ _ _ _ _ _ _ _ _ _ _ _ hq_6 hμ hz_9 hP hD hS (lv_sub hl [5, 6, 7, 8, 9, 4, 3, 2, 1, 0] rfl)
    · refine pz_top (y := zi 6) (congrArg zi c_14) ?_
      refine lv_tableIn (tgt := 463) hx hb dL_law_133 (by decide) (by decide) rfl (by decide) ?_
      exact K463 (by omega) _ _ _ _ _ _ _ _ _ _ _ _ _ _ hq_6 hμ hz_9 hP hD hS (lv_sub hl [5, 6, 7, 8, 9, 4, 3, 2, 1, 0] rfl)
    · refine pz_top (y := zi 7) (congrArg zi c_14) ?_
      refine lv_tableIn (tgt := 463) hx hb dL_law_133 (by decide) (by decide) rfl (by decide) ?_
      exact K463 (by omega) _ _ _ _ _ _ _ _ _ _ _ _ _ _ hq_6 hμ hz_9 hP hD hS (lv_sub hl [5, 6, 7, 8, 9, 4, 3, 2, 1, 0] rfl)
    · refine pz_top (y := zi 8) (congrArg zi c_14) ?_
      refine lv_tableIn (tgt := 658) hx hb dL_law_133 (by decide) (by decide) rfl (by decide) ?_
      exact K658 (by omega) _ _ _ _ _ _ _ _ _ _ _ _ _ _ hq_6 hμ hz_9 hP hD hS (lv_sub hl [5, 6, 7, 8, 9, 4, 3, 2, 1, 0] rfl)
    · refine pz_top (y := zi 9) (congrArg zi c_14) ?_
      refine lv_tableIn (tgt := 658) hx hb dL_law_133 (by decide) (by decide) rfl (by decide) ?_
      exact K658 (by omega) _ _ _ _ _ _ _ _ _ _ _ _ _ _ hq_6 hμ hz_9 hP hD hS (lv_sub hl [5, 6, 7, 8, 9, 4, 3, 2, 1, 0] rfl)
    · refine pz_top (y := zi 10) (congrArg zi c_14) ?_
      refine lv_tableOut (tgt := 732) hx hb dL_law_133 (by decide) (by decide) ?_
      exact K732 (by omega) _ _ _ _ _ _ _ _ _ _ _ _ _ _ hq_6 hμ hz_9 hP hD hS (lv_sub hl [5, 6, 7, 8, 9, 4, 3, 2, 1, 0] rfl)
    · refine pz_top (y := zi 11) (congrArg zi c_14) ?_
      refine lv_tableOut (tgt := 732) hx hb dL_law_133 (by decide) (by decide) ?_
      exact K732 (by omega) _ _ _ _ _ _ _ _ _ _ _ _ _ _ hq_6 hμ hz_9 hP hD hS (lv_sub hl [5, 6, 7, 8, 9, 4, 3, 2, 1, 0] rfl)
    · refine pz_top (y := zi 12) (congrArg zi c_14) ?_
      refine lv_tableOut (tgt := 732) hx hb dL_law_133 (by decide) (by decide) ?_
      exact K732 (by omega) _ _ _ _ _ _ _ _ _ _ _ _ _ _ hq_6 hμ hz_9 hP hD hS (lv_sub hl [5, 6, 7, 8, 9, 4, 3, 2, 1, 0] rfl)

set_option maxHeartbeats 4000000 in
set_option maxRecDepth 100000 in
theorem law_start {p : Program} {l : Launch} {e : Env} {s : State} {m : MethodId} {below : List Frame} {meth : Method} {c : Code} {dC : Nat → ClassId} {dI : Nat → Nat → Nat} {cI cZ cM cT : ClassId} (hnt : l.stackTraces = false) {a0 b L : Nat} {xs : Nat → Int32} (hL : L ≤ 260) (C0 : lw_At p s m meth c b L xs) (hts : ∀ w ∈ zs_law, w.before #[Value.ref b] s = true) {A : Nat → Prop} (hA : ∀ q : Nat, s.heap.size ≤ q → A q) (hA2 : ∀ q : Nat, A q → s.heap.size ≤ q) (hZ : zB a0 A s s.heap) (hK : va_K (dC, dI) vwCl (zT4 cI cZ cM cT) s) {ls : Array Slot} (hP : va_P (dC, dI) vwCl [] s.heap) (hD : va_D A []) (hS : va_S A s.heap s.heap []) (hl : lv_has ls 14 [(0, .ref b)]) (K1 : ∀ (hh : Nat) (ms : List pq_M) (κ : pq_S) (k1 n1 : Nat) (H : Heap) (locs : List Loc) (ls : Array Slot), k1 ≤ 100 → n1 ≤ 10000 → pq_mo ms → 1 ≤ ms.length → pq_Sok κ → va_P (dC, dI) vwCl ([] ++ (pq_WD cI cZ cM cT hh ms 0 0 0 κ)) H → va_D A ([] ++ (pq_WD cI cZ cM cT hh ms 0 0 0 κ)) → va_S A s.heap H locs → lv_has ls 14 [(0, .ref b), (1, .ref hh), (2, .int (zi 0)), (3, .int (zi 0)), (4, .int (zi 0))] → W p l e room_1 s m #[Value.ref b] below meth c H locs k1 n1 (lw_Z below #[Value.ref b] s) (F0 m 62 ls [])) : W p l e room_1 s m #[Value.ref b] below meth c s.heap [] 0 0 (lw_Z below #[Value.ref b] s) (F0 m 0 ls []) := by
  obtain ⟨hx, hb, hr, hml, hown, -, hX0, hbl, hlocks, hgv⟩ := id C0
  have hown : s.vm.findClass RL = some m.cls := hown
  have hX : zX A b L xs s s.heap := ⟨hX0, fun h => absurd (hA2 b h) (Nat.not_le.mpr hbl), hbl⟩
  have hR1 : 600000 ≤ room_1.cells := Nat.le_of_ble_eq_true rfl
  have hR2 : 7300000 ≤ room_1.slots := Nat.le_of_ble_eq_true rfl
  have hiX7 : ∀ w ∈ wsX70, w ∈ zs_law := fun w h => List.mem_append_right _ (inX7 w h)
  have hm0 : pq_mo ([] : List pq_M) := ⟨by decide, fun μ h => by simp at h⟩
  refine va_new (ci := 6) (fs := [.null, .null, .null, .null, .null, .null, .int 0, .int 0, .int 0, .int 0, .int 0]) (C := RX7) (T := TX7) (N := 11) hx hb hts hiX7 tyX7 tyX7_ok hown (hts (.classLink RL 16 RX7) (by decide +kernel)) (hts (.instantiable RX7 11) (by decide +kernel)) (hts (.initialized RX7) (by decide +kernel)) hK hP hD hS hA rfl (fun j hj => by rcases (show j = 0 ∨ j = 1 ∨ j = 2 ∨ j = 3 ∨ j = 4 ∨ j = 5 ∨ j = 6 ∨ j = 7 ∨ j = 8 ∨ j = 9 ∨ j = 10 by omega) with rfl | rfl | rfl | rfl | rfl | rfl | rfl | rfl | rfl | rfl | rfl <;> rfl) (by first | exact Nat.le_of_ble_eq_true rfl | omega) (by first | exact Nat.le_of_ble_eq_true rfl | omega) dL_law_0 (fun q_1 H hP hD hS => ?_)
  have hP : va_P (dC, dI) vwCl [(q_1, .inr (6, [.null, .null, .null, .null, .null, .null, .int 0, .int 0, .int 0, .int 0, .int 0]))] H := hP
  have hD : va_D A [(q_1, .inr (6, [.null, .null, .null, .null, .null, .null, .int 0, .int 0, .int 0, .int 0, .int 0]))] := hD
  refine W.widen (k := 1) (n := 11) (by first | exact Nat.le_of_ble_eq_true rfl | omega) (by first | exact Nat.le_of_ble_eq_true rfl | omega) ?_
  refine lv_dup hx hb dL_law_3 rfl ?_
  have hPc := hP.sub (ws' := [(q_1, .inr (6, [.null, .null, .null, .null, .null, .null, .int 0, .int 0, .int 0, .int 0, .int 0]))]) [0] rfl
  have hDc := hD.sub (ws' := [(q_1, .inr (6, [.null, .null, .null, .null, .null, .null, .int 0, .int 0, .int 0, .int 0, .int 0]))]) [0] (by decide) rfl
  have hFc := va_free (wc := [(q_1, .inr (6, [.null, .null, .null, .null, .null, .null, .int 0, .int 0, .int 0, .int 0, .int 0]))]) hD hS hA [0] rfl
  have hZc := ((hZ.kept hS.2.1).narrow hFc)
  refine va_callv (va_runI (As := []) (rest := [.ref q_1]) ⟨hx, hb, hml, hown, hts⟩ (c_X7_init l dC dI cI cZ cM cT hnt a0 H.size q_1 ) (cwI 0 hts zg_c_X7_init rfl rfl rfl (hts (.initialized RX7) (by decide +kernel)) (hts (.methodLink RL 25 yX7_init) (by decide +kernel)) (hts (.instanceMethod yX7_init) (by decide +kernel)) rfl (by decide +kernel) ⟨(by first | exact Nat.le_of_ble_eq_true rfl | omega), (by first | exact Nat.le_of_ble_eq_true rfl | omega)⟩) ⟨fun a U g mk q => by obtain ⟨q0, q1, qP, qK, qD, qZ⟩ := q; exact ⟨q0, q1, qP, va_K.moved (u := U) (U := U.calling g mk a) (Vm.Alike.refl U.vm) qK, qD, qZ.call⟩, fun U hU hW => ⟨rfl, by rw [hU], by rw [hU]; exact hPc, va_K.moved hW.alike hK, hDc.weaken (fun _ _ _ _ => trivial), by rw [hU]; exact hZc.warm hW⟩⟩ rfl rfl hl.1 rfl (lv_room (by first | exact Nat.le_of_ble_eq_true rfl | omega)) dL_law_4 ⟨(by first | exact Nat.le_of_ble_eq_true rfl | omega), (by first | exact Nat.le_of_ble_eq_true rfl | omega)⟩) hS (fun q _ h => hFc q h) hFc (fun u t H1 locs ht hvm hw hB hz1 hk1 hS => ?_)
  obtain ⟨κ1_3, hz_4, hP1, hK1, hD1⟩ := hB
  rw [ht] at hP1
  obtain ⟨hP, hD⟩ := va_join (wr := []) (w1 := ([] ++ (pq_WD cI cZ cM cT q_1 ([] : List pq_M) (0) (0) (0) κ1_3))) hP hD [0] [] rfl rfl (by decide) (by decide) hk1 hFc hP1 hD1
  generalize H1 = H at hP hS ⊢
  have hP : va_P (dC, dI) vwCl ([] ++ (pq_WD cI cZ cM cT q_1 ([] : List pq_M) (0) (0) (0) κ1_3)) H := hP
  have hD : va_D A ([] ++ (pq_WD cI cZ cM cT q_1 ([] : List pq_M) (0) (0) (0) κ1_3)) := hD
  refine W.widen (k := 26) (n := 4309) (by first | exact Nat.le_of_ble_eq_true rfl | omega) (by first | exact Nat.le_of_ble_eq_true rfl | omega) ?_
  refine lv_astore_n (lv' := [(1, .ref q_1), (0, .ref b)]) hx hb dL_law_7 rfl hl (by decide) rfl (fun ls hl => ?_)
  refine lv_iconst (v := zi 0) hx hb dL_law_8 (by decide) ?_
  refine lv_istore_n (lv' := [(2, .int (zi 0)), (1, .ref q_1), (0, .ref b)]) hx hb dL_law_9 rfl hl (by decide) rfl (fun ls hl => ?_)
  refine lv_iload_n hx hb dL_law_10 rfl (lv_at hl 0 rfl) ?_
  refine lv_iconst (v := zi 5) hx hb dL_law_11 (by decide) ?_
  refine pz_icmp_ge (tgt := 55) hx hb (by omega) dL_law_12 (by decide) (fun c_5 => ?_) (fun c_5 => ?_)
  · exact absurd c_5 (by omega)
  · refine lv_aload_n hx hb dL_law_15 rfl (lv_at hl 1 rfl) ?_
    refine lv_aload_n hx hb dL_law_16 rfl (lv_at hl 2 rfl) ?_
    refine lv_iconst (v := zi 2) hx hb dL_law_17 (by decide) ?_
    refine lv_iload_n hx hb dL_law_18 rfl (lv_at hl 0 rfl) ?_
    refine pz_imul hx hb dL_law_19 ?_
    have hPc := hP.sub (ws' := []) [] rfl
    have hDc := hD.sub (ws' := []) [] (by decide) rfl
    have hFc := va_free (wc := []) hD hS hA [] rfl
    have hXc := ((hX.kept hS.1 hS.2.1).narrow hFc)
    refine va_calli (va_runS (As := [.ref b, .int (zi (2 * 0))]) (rest := [.ref q_1]) ⟨hx, hb, hml, hown, hts⟩ (c_L_cell l dC dI cI cZ cM cT H.size b L xs (2 * 0) (by first | assumption | omega | rfl) (by first | assumption | omega | rfl)) (va_cwS 2 hts (zz_gS (goodIn_of _ (by decide +kernel)) zg_c_L_cell) rfl rfl rfl (by decide +kernel) ⟨(by first | exact Nat.le_of_ble_eq_true rfl | omega), (by first | exact Nat.le_of_ble_eq_true rfl | omega)⟩) ⟨fun a U g mk q => by obtain ⟨q0, q1, qP, qK, qD, qX⟩ := q; exact ⟨q0, q1, qP, va_K.moved (u := U) (U := U.calling g mk a) (Vm.Alike.refl U.vm) qK, qD, qX.call⟩, fun U hU hW => ⟨rfl, by rw [hU], by rw [hU]; exact hPc, va_K.moved hW.alike hK, hDc.weaken (fun _ _ _ _ => trivial), by rw [hU]; exact hXc.warm hW⟩⟩ rfl rfl hl.1 rfl (lv_room (by first | exact Nat.le_of_ble_eq_true rfl | omega)) dL_law_20 ⟨(by first | exact Nat.le_of_ble_eq_true rfl | omega), (by first | exact Nat.le_of_ble_eq_true rfl | omega)⟩) hS (fun q _ h => hFc q h) hFc (fun r_6 u t H1 locs ht hvm hw hB hz1 hk1 hS => ?_)
    obtain ⟨hP1, hK1, hD1⟩ := hB
    rw [ht] at hP1
    obtain ⟨hP, hD⟩ := va_joinQ (wr := []) (w1 := []) (pl := (pq_WD cI cZ cM cT q_1 ([] : List pq_M) (0) (0) (0) κ1_3)) hP hD [] [] rfl rfl (by decide) (by decide) hk1 hFc hP1 hD1
    generalize H1 = H at hP hS ⊢
    have hP : va_P (dC, dI) vwCl ([] ++ (pq_WD cI cZ cM cT q_1 ([] : List pq_M) (0) (0) (0) κ1_3)) H := hP
    have hD : va_D A ([] ++ (pq_WD cI cZ cM cT q_1 ([] : List pq_M) (0) (0) (0) κ1_3)) := hD
    refine W.widen (k := 26) (n := 4309) (by first | exact Nat.le_of_ble_eq_true rfl | omega) (by first | exact Nat.le_of_ble_eq_true rfl | omega) ?_
    refine lv_aload_n hx hb dL_law_23 rfl (lv_at hl 2 rfl) ?_
    refine lv_iconst (v := zi 2) hx hb dL_law_24 (by decide) ?_
    refine lv_iload_n hx hb dL_law_25 rfl (lv_at hl 0 rfl) ?_
    refine pz_imul hx hb dL_law_26 ?_
    refine lv_iconst (v := zi 1) hx hb dL_law_27 (by decide) ?_
    refine pz_iadd hx hb dL_law_28 ?_
    have hPc := hP.sub (ws' := []) [] rfl
    have hDc := hD.sub (ws' := []) [] (by decide) rfl
    have hFc := va_free (wc := []) hD hS hA [] rfl
    have hXc := ((hX.kept hS.1 hS.2.1).narrow hFc)
    refine va_calli (va_runS (As := [.ref b, .int (zi ((2 * 0) + 1))]) (rest := [.int r_6, .ref q_1]) ⟨hx, hb, hml, hown, hts⟩ (c_L_cell l dC dI cI cZ cM cT H.size b L xs ((2 * 0) + 1) (by first | assumption | omega | rfl) (by first | assumption | omega | rfl)) (va_cwS 2 hts (zz_gS (goodIn_of _ (by decide +kernel)) zg_c_L_cell) rfl rfl rfl (by decide +kernel) ⟨(by first | exact Nat.le_of_ble_eq_true rfl | omega), (by first | exact Nat.le_of_ble_eq_true rfl | omega)⟩) ⟨fun a U g mk q => by obtain ⟨q0, q1, qP, qK, qD, qX⟩ := q; exact ⟨q0, q1, qP, va_K.moved (u := U) (U := U.calling g mk a) (Vm.Alike.refl U.vm) qK, qD, qX.call⟩, fun U hU hW => ⟨rfl, by rw [hU], by rw [hU]; exact hPc, va_K.moved hW.alike hK, hDc.weaken (fun _ _ _ _ => trivial), by rw [hU]; exact hXc.warm hW⟩⟩ rfl rfl hl.1 rfl (lv_room (by first | exact Nat.le_of_ble_eq_true rfl | omega)) dL_law_29 ⟨(by first | exact Nat.le_of_ble_eq_true rfl | omega), (by first | exact Nat.le_of_ble_eq_true rfl | omega)⟩) hS (fun q _ h => hFc q h) hFc (fun r_7 u t H1 locs ht hvm hw hB hz1 hk1 hS => ?_)
    obtain ⟨hP1, hK1, hD1⟩ := hB
    rw [ht] at hP1
    obtain ⟨hP, hD⟩ := va_joinQ (wr := []) (w1 := []) (pl := (pq_WD cI cZ cM cT q_1 ([] : List pq_M) (0) (0) (0) κ1_3)) hP hD [] [] rfl rfl (by decide) (by decide) hk1 hFc hP1 hD1
    generalize H1 = H at hP hS ⊢
    have hP : va_P (dC, dI) vwCl ([] ++ (pq_WD cI cZ cM cT q_1 ([] : List pq_M) (0) (0) (0) κ1_3)) H := hP
    have hD : va_D A ([] ++ (pq_WD cI cZ cM cT q_1 ([] : List pq_M) (0) (0) (0) κ1_3)) := hD
    refine W.widen (k := 26) (n := 4309) (by first | exact Nat.le_of_ble_eq_true rfl | omega) (by first | exact Nat.le_of_ble_eq_true rfl | omega) ?_
    refine lv_iconst (v := zi 4) hx hb dL_law_32 (by decide) ?_
    refine lv_aload_n hx hb dL_law_33 rfl (lv_at hl 2 rfl) ?_
    refine lv_bipush (v := zi 10) hx hb dL_law_34 (by decide) ?_
    have hPc := hP.sub (ws' := []) [] rfl
    have hDc := hD.sub (ws' := []) [] (by decide) rfl
    have hFc := va_free (wc := []) hD hS hA [] rfl
    have hXc := ((hX.kept hS.1 hS.2.1).narrow hFc)
    refine va_calli (va_runS (As := [.ref b, .int (zi 10)]) (rest := [.int (zi 4), .int r_7, .int r_6, .ref q_1]) ⟨hx, hb, hml, hown, hts⟩ (c_L_cell l dC dI cI cZ cM cT H.size b L xs 10 (by first | assumption | omega | rfl) (by first | assumption | omega | rfl)) (va_cwS 2 hts (zz_gS (goodIn_of _ (by decide +kernel)) zg_c_L_cell) rfl rfl rfl (by decide +kernel) ⟨(by first | exact Nat.le_of_ble_eq_true rfl | omega), (by first | exact Nat.le_of_ble_eq_true rfl | omega)⟩) ⟨fun a U g mk q => by obtain ⟨q0, q1, qP, qK, qD, qX⟩ := q; exact ⟨q0, q1, qP, va_K.moved (u := U) (U := U.calling g mk a) (Vm.Alike.refl U.vm) qK, qD, qX.call⟩, fun U hU hW => ⟨rfl, by rw [hU], by rw [hU]; exact hPc, va_K.moved hW.alike hK, hDc.weaken (fun _ _ _ _ => trivial), by rw [hU]; exact hXc.warm hW⟩⟩ rfl rfl hl.1 rfl (lv_room (by first | exact Nat.le_of_ble_eq_true rfl | omega)) dL_law_36 ⟨(by first | exact Nat.le_of_ble_eq_true rfl | omega), (by first | exact Nat.le_of_ble_eq_true rfl | omega)⟩) hS (fun q _ h => hFc q h) hFc (fun r_8 u t H1 locs ht hvm hw hB hz1 hk1 hS => ?_)
    obtain ⟨hP1, hK1, hD1⟩ := hB
    rw [ht] at hP1
    obtain ⟨hP, hD⟩ := va_joinQ (wr := []) (w1 := []) (pl := (pq_WD cI cZ cM cT q_1 ([] : List pq_M) (0) (0) (0) κ1_3)) hP hD [] [] rfl rfl (by decide) (by decide) hk1 hFc hP1 hD1
    generalize H1 = H at hP hS ⊢
    have hP : va_P (dC, dI) vwCl ([] ++ (pq_WD cI cZ cM cT q_1 ([] : List pq_M) (0) (0) (0) κ1_3)) H := hP
    have hD : va_D A ([] ++ (pq_WD cI cZ cM cT q_1 ([] : List pq_M) (0) (0) (0) κ1_3)) := hD
    refine W.widen (k := 26) (n := 4309) (by first | exact Nat.le_of_ble_eq_true rfl | omega) (by first | exact Nat.le_of_ble_eq_true rfl | omega) ?_
    refine lv_bipush (v := zi 6) hx hb dL_law_39 (by decide) ?_
    have hPc := hP.sub (ws' := []) [] rfl
    have hDc := hD.sub (ws' := []) [] (by decide) rfl
    have hFc := va_free (wc := []) hD hS hA [] rfl
    refine va_calli (va_runS (As := [.int r_8, .int (zi 6)]) (rest := [.int (zi 4), .int r_7, .int r_6, .ref q_1]) ⟨hx, hb, hml, hown, hts⟩ (c_L_below l dC dI cI cZ cM cT H.size r_8 6 (by first | assumption | omega | rfl)) (va_cwS 2 hts (zz_gS (goodIn_of _ (by decide +kernel)) zg_c_L_below) rfl rfl rfl (by decide +kernel) ⟨(by first | exact Nat.le_of_ble_eq_true rfl | omega), (by first | exact Nat.le_of_ble_eq_true rfl | omega)⟩) ⟨fun a U g mk q => by obtain ⟨q0, q1, qP, qK, qD⟩ := q; exact ⟨q0, q1, qP, va_K.moved (u := U) (U := U.calling g mk a) (Vm.Alike.refl U.vm) qK, qD⟩, fun U hU hW => ⟨rfl, by rw [hU], by rw [hU]; exact hPc, va_K.moved hW.alike hK, hDc.weaken (fun _ _ _ _ => trivial)⟩⟩ rfl rfl hl.1 rfl (lv_room (by first | exact Nat.le_of_ble_eq_true rfl | omega)) dL_law_41 ⟨(by first | exact Nat.le_of_ble_eq_true rfl | omega), (by first | exact Nat.le_of_ble_eq_true rfl | omega)⟩) hS (fun q _ h => hFc q h) hFc (fun r_9 u t H1 locs ht hvm hw hB hz1 hk1 hS => ?_)
    obtain ⟨hP1, hK1, hD1⟩ := hB
    rw [ht] at hP1
    obtain ⟨hP, hD⟩ := va_joinQ (wr := []) (w1 := []) (pl := (pq_WD cI cZ cM cT q_1 ([] : List pq_M) (0) (0) (0) κ1_3)) hP hD [] [] rfl rfl (by decide) (by decide) hk1 hFc hP1 hD1
    generalize H1 = H at hP hS ⊢
    have hP : va_P (dC, dI) vwCl ([] ++ (pq_WD cI cZ cM cT q_1 ([] : List pq_M) (0) (0) (0) κ1_3)) H := hP
    have hD : va_D A ([] ++ (pq_WD cI cZ cM cT q_1 ([] : List pq_M) (0) (0) (0) κ1_3)) := hD
    refine W.widen (k := 26) (n := 4309) (by first | exact Nat.le_of_ble_eq_true rfl | omega) (by first | exact Nat.le_of_ble_eq_true rfl | omega) ?_
    obtain ⟨q_10, rfl, hq_11⟩ := hw
    refine pz_iadd hx hb dL_law_44 ?_
    have hPc := hP.part (cx := []) [] rfl
    have hDc := hD.part (cx := []) [] (by decide) rfl
    have hFc := va_freeP (cx := []) hD hS hA [] rfl
    refine va_calli (va_runS (As := [.ref q_1, .int r_6, .int r_7, .int (zi (4 + q_10))]) (rest := []) ⟨hx, hb, hml, hown, hts⟩ (c_L_machine l dC dI cI cZ cM cT H.size q_1 ([] : List pq_M) 0 0 0 κ1_3 r_6 r_7 (4 + q_10) hm0 hz_4 (by decide) (by first | assumption | omega | rfl)) (va_cwS 4 hts (zz_gS (goodIn_of _ (by decide +kernel)) zg_c_L_machine) rfl rfl rfl (by decide +kernel) ⟨(by first | exact Nat.le_of_ble_eq_true rfl | omega), (by first | exact Nat.le_of_ble_eq_true rfl | omega)⟩) ⟨fun a U g mk q => by obtain ⟨q0, q1, qP, qK, qD⟩ := q; exact ⟨q0, q1, qP, va_K.moved (u := U) (U := U.calling g mk a) (Vm.Alike.refl U.vm) qK, qD⟩, fun U hU hW => ⟨rfl, by rw [hU], by rw [hU]; exact hPc, va_K.moved hW.alike hK, hDc.weaken (fun _ _ _ _ => trivial)⟩⟩ rfl rfl hl.1 rfl (lv_room (by first | exact Nat.le_of_ble_eq_true rfl | omega)) dL_law_45 ⟨(by first | exact Nat.le_of_ble_eq_true rfl | omega), (by first | exact Nat.le_of_ble_eq_true rfl | omega)⟩) hS (fun q _ h => hFc q h) hFc (fun r_12 u t H1 locs ht hvm hw hB hz1 hk1 hS => ?_)
    obtain ⟨κ1_13, ms1_14, hz_15, hm_16, hP1, hK1, hD1⟩ := hB
    rw [ht] at hP1
    obtain ⟨hP, hD⟩ := va_joinP (wr := []) (rx := []) (pl1 := (pq_WD cI cZ cM cT q_1 ms1_14 (0) (0) (0) κ1_13)) hP hD [] [] rfl rfl (by decide) (by decide) hk1 hFc hP1 hD1
    generalize H1 = H at hP hS ⊢
    have hP : va_P (dC, dI) vwCl ([] ++ (pq_WD cI cZ cM cT q_1 ms1_14 (0) (0) (0) κ1_13)) H := hP
    have hD : va_D A ([] ++ (pq_WD cI cZ cM cT q_1 ms1_14 (0) (0) (0) κ1_13)) := hD
    refine W.widen (k := 30) (n := 4340) (by first | exact Nat.le_of_ble_eq_true rfl | omega) (by first | exact Nat.le_of_ble_eq_true rfl | omega) ?_
    have hmf_17 : pq_mo ms1_14 ∧ ms1_14.length = 1 := ⟨hm_16.1, by have h1 := hm_16.2; simp only [List.length_nil] at h1; omega⟩
    refine lv_pop hx hb dL_law_48 rfl ?_
    refine pz_iinc (lv' := [(2, .int (zi 1)), (1, .ref q_1), (0, .ref b)]) hx hb dL_law_49 hl (k := 0) rfl (by decide) rfl (fun ls hl => ?_)
    refine lv_goto (tgt := 10) hx hb dL_law_52 (by decide) ?_
    refine lv_iload_n hx hb dL_law_10 rfl (lv_at hl 0 rfl) ?_
    refine lv_iconst (v := zi 5) hx hb dL_law_11 (by decide) ?_
    refine pz_icmp_ge (tgt := 55) hx hb (by omega) dL_law_12 (by decide) (fun c_18 => ?_) (fun c_18 => ?_)
    · exact absurd c_18 (by omega)
    · refine lv_aload_n hx hb dL_law_15 rfl (lv_at hl 1 rfl) ?_
      refine lv_aload_n hx hb dL_law_16 rfl (lv_at hl 2 rfl) ?_
      refine lv_iconst (v := zi 2) hx hb dL_law_17 (by decide) ?_
      refine lv_iload_n hx hb dL_law_18 rfl (lv_at hl 0 rfl) ?_
      refine pz_imul hx hb dL_law_19 ?_
      have hPc := hP.sub (ws' := []) [] rfl
      have hDc := hD.sub (ws' := []) [] (by decide) rfl
      have hFc := va_free (wc := []) hD hS hA [] rfl
      have hXc := ((hX.kept hS.1 hS.2.1).narrow hFc)
      refine va_calli (va_runS (As := [.ref b, .int (zi (2 * 1))]) (rest := [.ref q_1]) ⟨hx, hb, hml, hown, hts⟩ (c_L_cell l dC dI cI cZ cM cT H.size b L xs (2 * 1) (by first | assumption | omega | rfl) (by first | assumption | omega | rfl)) (va_cwS 2 hts (zz_gS (goodIn_of _ (by decide +kernel)) zg_c_L_cell) rfl rfl rfl (by decide +kernel) ⟨(by first | exact Nat.le_of_ble_eq_true rfl | omega), (by first | exact Nat.le_of_ble_eq_true rfl | omega)⟩) ⟨fun a U g mk q => by obtain ⟨q0, q1, qP, qK, qD, qX⟩ := q; exact ⟨q0, q1, qP, va_K.moved (u := U) (U := U.calling g mk a) (Vm.Alike.refl U.vm) qK, qD, qX.call⟩, fun U hU hW => ⟨rfl, by rw [hU], by rw [hU]; exact hPc, va_K.moved hW.alike hK, hDc.weaken (fun _ _ _ _ => trivial), by rw [hU]; exact hXc.warm hW⟩⟩ rfl rfl hl.1 rfl (lv_room (by first | exact Nat.le_of_ble_eq_true rfl | omega)) dL_law_20 ⟨(by first | exact Nat.le_of_ble_eq_true rfl | omega), (by first | exact Nat.le_of_ble_eq_true rfl | omega)⟩) hS (fun q _ h => hFc q h) hFc (fun r_19 u t H1 locs ht hvm hw hB hz1 hk1 hS => ?_)
      obtain ⟨hP1, hK1, hD1⟩ := hB
      rw [ht] at hP1
      obtain ⟨hP, hD⟩ := va_joinQ (wr := []) (w1 := []) (pl := (pq_WD cI cZ cM cT q_1 ms1_14 (0) (0) (0) κ1_13)) hP hD [] [] rfl rfl (by decide) (by decide) hk1 hFc hP1 hD1
      generalize H1 = H at hP hS ⊢
      have hP : va_P (dC, dI) vwCl ([] ++ (pq_WD cI cZ cM cT q_1 ms1_14 (0) (0) (0) κ1_13)) H := hP
      have hD : va_D A ([] ++ (pq_WD cI cZ cM cT q_1 ms1_14 (0) (0) (0) κ1_13)) := hD
      refine W.widen (k := 30) (n := 4340) (by first | exact Nat.le_of_ble_eq_true rfl | omega) (by first | exact Nat.le_of_ble_eq_true rfl | omega) ?_
      refine lv_aload_n hx hb dL_law_23 rfl (lv_at hl 2 rfl) ?_
      refine lv_iconst (v := zi 2) hx hb dL_law_24 (by decide) ?_
      refine lv_iload_n hx hb dL_law_25 rfl (lv_at hl 0 rfl) ?_
      refine pz_imul hx hb dL_law_26 ?_
      refine lv_iconst (v := zi 1) hx hb dL_law_27 (by decide) ?_
      refine pz_iadd hx hb dL_law_28 ?_
      have hPc := hP.sub (ws' := []) [] rfl
      have hDc := hD.sub (ws' := []) [] (by decide) rfl
      have hFc := va_free (wc := []) hD hS hA [] rfl
      have hXc := ((hX.kept hS.1 hS.2.1).narrow hFc)
      refine va_calli (va_runS (As := [.ref b, .int (zi ((2 * 1) + 1))]) (rest := [.int r_19, .ref q_1]) ⟨hx, hb, hml, hown, hts⟩ (c_L_cell l dC dI cI cZ cM cT H.size b L xs ((2 * 1) + 1) (by first | assumption | omega | rfl) (by first | assumption | omega | rfl)) (va_cwS 2 hts (zz_gS (goodIn_of _ (by decide +kernel)) zg_c_L_cell) rfl rfl rfl (by decide +kernel) ⟨(by first | exact Nat.le_of_ble_eq_true rfl | omega), (by first | exact Nat.le_of_ble_eq_true rfl | omega)⟩) ⟨fun a U g mk q => by obtain ⟨q0, q1, qP, qK, qD, qX⟩ := q; exact ⟨q0, q1, qP, va_K.moved (u := U) (U := U.calling g mk a) (Vm.Alike.refl U.vm) qK, qD, qX.call⟩, fun U hU hW => ⟨rfl, by rw [hU], by rw [hU]; exact hPc, va_K.moved hW.alike hK, hDc.weaken (fun _ _ _ _ => trivial), by rw [hU]; exact hXc.warm hW⟩⟩ rfl rfl hl.1 rfl (lv_room (by first | exact Nat.le_of_ble_eq_true rfl | omega)) dL_law_29 ⟨(by first | exact Nat.le_of_ble_eq_true rfl | omega), (by first | exact Nat.le_of_ble_eq_true rfl | omega)⟩) hS (fun q _ h => hFc q h) hFc (fun r_20 u t H1 locs ht hvm hw hB hz1 hk1 hS => ?_)
      obtain ⟨hP1, hK1, hD1⟩ := hB
      rw [ht] at hP1
      obtain ⟨hP, hD⟩ := va_joinQ (wr := []) (w1 := []) (pl := (pq_WD cI cZ cM cT q_1 ms1_14 (0) (0) (0) κ1_13)) hP hD [] [] rfl rfl (by decide) (by decide) hk1 hFc hP1 hD1
      generalize H1 = H at hP hS ⊢
      have hP : va_P (dC, dI) vwCl ([] ++ (pq_WD cI cZ cM cT q_1 ms1_14 (0) (0) (0) κ1_13)) H := hP
      have hD : va_D A ([] ++ (pq_WD cI cZ cM cT q_1 ms1_14 (0) (0) (0) κ1_13)) := hD
      refine W.widen (k := 30) (n := 4340) (by first | exact Nat.le_of_ble_eq_true rfl | omega) (by first | exact Nat.le_of_ble_eq_true rfl | omega) ?_
      refine lv_iconst (v := zi 4) hx hb dL_law_32 (by decide) ?_
      refine lv_aload_n hx hb dL_law_33 rfl (lv_at hl 2 rfl) ?_
      refine lv_bipush (v := zi 10) hx hb dL_law_34 (by decide) ?_
      have hPc := hP.sub (ws' := []) [] rfl
      have hDc := hD.sub (ws' := []) [] (by decide) rfl
      have hFc := va_free (wc := []) hD hS hA [] rfl
      have hXc := ((hX.kept hS.1 hS.2.1).narrow hFc)
      refine va_calli (va_runS (As := [.ref b, .int (zi 10)]) (rest := [.int (zi 4), .int r_20, .int r_19, .ref q_1]) ⟨hx, hb, hml, hown, hts⟩ (c_L_cell l dC dI cI cZ cM cT H.size b L xs 10 (by first | assumption | omega | rfl) (by first | assumption | omega | rfl)) (va_cwS 2 hts (zz_gS (goodIn_of _ (by decide +kernel)) zg_c_L_cell) rfl rfl rfl (by decide +kernel) ⟨(by first | exact Nat.le_of_ble_eq_true rfl | omega), (by first | exact Nat.le_of_ble_eq_true rfl | omega)⟩) ⟨fun a U g mk q => by obtain ⟨q0, q1, qP, qK, qD, qX⟩ := q; exact ⟨q0, q1, qP, va_K.moved (u := U) (U := U.calling g mk a) (Vm.Alike.refl U.vm) qK, qD, qX.call⟩, fun U hU hW => ⟨rfl, by rw [hU], by rw [hU]; exact hPc, va_K.moved hW.alike hK, hDc.weaken (fun _ _ _ _ => trivial), by rw [hU]; exact hXc.warm hW⟩⟩ rfl rfl hl.1 rfl (lv_room (by first | exact Nat.le_of_ble_eq_true rfl | omega)) dL_law_36 ⟨(by first | exact Nat.le_of_ble_eq_true rfl | omega), (by first | exact Nat.le_of_ble_eq_true rfl | omega)⟩) hS (fun q _ h => hFc q h) hFc (fun r_21 u t H1 locs ht hvm hw hB hz1 hk1 hS => ?_)
      obtain ⟨hP1, hK1, hD1⟩ := hB
      rw [ht] at hP1
      obtain ⟨hP, hD⟩ := va_joinQ (wr := []) (w1 := []) (pl := (pq_WD cI cZ cM cT q_1 ms1_14 (0) (0) (0) κ1_13)) hP hD [] [] rfl rfl (by decide) (by decide) hk1 hFc hP1 hD1
      generalize H1 = H at hP hS ⊢
      have hP : va_P (dC, dI) vwCl ([] ++ (pq_WD cI cZ cM cT q_1 ms1_14 (0) (0) (0) κ1_13)) H := hP
      have hD : va_D A ([] ++ (pq_WD cI cZ cM cT q_1 ms1_14 (0) (0) (0) κ1_13)) := hD
      refine W.widen (k := 30) (n := 4340) (by first | exact Nat.le_of_ble_eq_true rfl | omega) (by first | exact Nat.le_of_ble_eq_true rfl | omega) ?_
      refine lv_bipush (v := zi 6) hx hb dL_law_39 (by decide) ?_
      have hPc := hP.sub (ws' := []) [] rfl
      have hDc := hD.sub (ws' := []) [] (by decide) rfl
      have hFc := va_free (wc := []) hD hS hA [] rfl
      refine va_calli (va_runS (As := [.int r_21, .int (zi 6)]) (rest := [.int (zi 4), .int r_20, .int r_19, .ref q_1]) ⟨hx, hb, hml, hown, hts⟩ (c_L_below l dC dI cI cZ cM cT H.size r_21 6 (by first | assumption | omega | rfl)) (va_cwS 2 hts (zz_gS (goodIn_of _ (by decide +kernel)) zg_c_L_below) rfl rfl rfl (by decide +kernel) ⟨(by first | exact Nat.le_of_ble_eq_true rfl | omega), (by first | exact Nat.le_of_ble_eq_true rfl | omega)⟩) ⟨fun a U g mk q => by obtain ⟨q0, q1, qP, qK, qD⟩ := q; exact ⟨q0, q1, qP, va_K.moved (u := U) (U := U.calling g mk a) (Vm.Alike.refl U.vm) qK, qD⟩, fun U hU hW => ⟨rfl, by rw [hU], by rw [hU]; exact hPc, va_K.moved hW.alike hK, hDc.weaken (fun _ _ _ _ => trivial)⟩⟩ rfl rfl hl.1 rfl (lv_room (by first | exact Nat.le_of_ble_eq_true rfl | omega)) dL_law_41 ⟨(by first | exact Nat.le_of_ble_eq_true rfl | omega), (by first | exact Nat.le_of_ble_eq_true rfl | omega)⟩) hS (fun q _ h => hFc q h) hFc (fun r_22 u t H1 locs ht hvm hw hB hz1 hk1 hS => ?_)
      obtain ⟨hP1, hK1, hD1⟩ := hB
      rw [ht] at hP1
      obtain ⟨hP, hD⟩ := va_joinQ (wr := []) (w1 := []) (pl := (pq_WD cI cZ cM cT q_1 ms1_14 (0) (0) (0) κ1_13)) hP hD [] [] rfl rfl (by decide) (by decide) hk1 hFc hP1 hD1
      generalize H1 = H at hP hS ⊢
      have hP : va_P (dC, dI) vwCl ([] ++ (pq_WD cI cZ cM cT q_1 ms1_14 (0) (0) (0) κ1_13)) H := hP
      have hD : va_D A ([] ++ (pq_WD cI cZ cM cT q_1 ms1_14 (0) (0) (0) κ1_13)) := hD
      refine W.widen (k := 30) (n := 4340) (by first | exact Nat.le_of_ble_eq_true rfl | omega) (by first | exact Nat.le_of_ble_eq_true rfl | omega) ?_
      obtain ⟨q_23, rfl, hq_24⟩ := hw
      refine pz_iadd hx hb dL_law_44 ?_
      have hPc := hP.part (cx := []) [] rfl
      have hDc := hD.part (cx := []) [] (by decide) rfl
      have hFc := va_freeP (cx := []) hD hS hA [] rfl
      refine va_calli (va_runS (As := [.ref q_1, .int r_19, .int r_20, .int (zi (4 + q_23))]) (rest := []) ⟨hx, hb, hml, hown, hts⟩ (c_L_machine l dC dI cI cZ cM cT H.size q_1 ms1_14 0 0 0 κ1_13 r_19 r_20 (4 + q_23) hmf_17.1 hz_15 (by have := hmf_17.2; omega) (by first | assumption | omega | rfl)) (va_cwS 4 hts (zz_gS (goodIn_of _ (by decide +kernel)) zg_c_L_machine) rfl rfl rfl (by decide +kernel) ⟨(by first | exact Nat.le_of_ble_eq_true rfl | omega), (by first | exact Nat.le_of_ble_eq_true rfl | omega)⟩) ⟨fun a U g mk q => by obtain ⟨q0, q1, qP, qK, qD⟩ := q; exact ⟨q0, q1, qP, va_K.moved (u := U) (U := U.calling g mk a) (Vm.Alike.refl U.vm) qK, qD⟩, fun U hU hW => ⟨rfl, by rw [hU], by rw [hU]; exact hPc, va_K.moved hW.alike hK, hDc.weaken (fun _ _ _ _ => trivial)⟩⟩ rfl rfl hl.1 rfl (lv_room (by first | exact Nat.le_of_ble_eq_true rfl | omega)) dL_law_45 ⟨(by first | exact Nat.le_of_ble_eq_true rfl | omega), (by first | exact Nat.le_of_ble_eq_true rfl | omega)⟩) hS (fun q _ h => hFc q h) hFc (fun r_25 u t H1 locs ht hvm hw hB hz1 hk1 hS => ?_)
      obtain ⟨κ1_26, ms1_27, hz_28, hm_29, hP1, hK1, hD1⟩ := hB
      rw [ht] at hP1
      obtain ⟨hP, hD⟩ := va_joinP (wr := []) (rx := []) (pl1 := (pq_WD cI cZ cM cT q_1 ms1_27 (0) (0) (0) κ1_26)) hP hD [] [] rfl rfl (by decide) (by decide) hk1 hFc hP1 hD1
      generalize H1 = H at hP hS ⊢
      have hP : va_P (dC, dI) vwCl ([] ++ (pq_WD cI cZ cM cT q_1 ms1_27 (0) (0) (0) κ1_26)) H := hP
      have hD : va_D A ([] ++ (pq_WD cI cZ cM cT q_1 ms1_27 (0) (0) (0) κ1_26)) := hD
      refine W.widen (k := 34) (n := 4371) (by first | exact Nat.le_of_ble_eq_true rfl | omega) (by first | exact Nat.le_of_ble_eq_true rfl | omega) ?_
      have hmf_30 : pq_mo ms1_27 ∧ ms1_27.length = 2 := ⟨hm_29.1, by have h1 := hm_29.2; have h2 := hmf_17.2; omega⟩
      refine lv_pop hx hb dL_law_48 rfl ?_
      refine pz_iinc (lv' := [(2, .int (zi 2)), (1, .ref q_1), (0, .ref b)]) hx hb dL_law_49 hl (k := 0) rfl (by decide) rfl (fun ls hl => ?_)
      refine lv_goto (tgt := 10) hx hb dL_law_52 (by decide) ?_
      refine lv_iload_n hx hb dL_law_10 rfl (lv_at hl 0 rfl) ?_
      refine lv_iconst (v := zi 5) hx hb dL_law_11 (by decide) ?_
      refine pz_icmp_ge (tgt := 55) hx hb (by omega) dL_law_12 (by decide) (fun c_31 => ?_) (fun c_31 => ?_)
      · exact absurd c_31 (by omega)
      · refine lv_aload_n hx hb dL_law_15 rfl (lv_at hl 1 rfl) ?_
        refine lv_aload_n hx hb dL_law_16 rfl (lv_at hl 2 rfl) ?_
        refine lv_iconst (v := zi 2) hx hb dL_law_17 (by decide) ?_
        refine lv_iload_n hx hb dL_law_18 rfl (lv_at hl 0 rfl) ?_
        refine pz_imul hx hb dL_law_19 ?_
        have hPc := hP.sub (ws' := []) [] rfl
        have hDc := hD.sub (ws' := []) [] (by decide) rfl
        have hFc := va_free (wc := []) hD hS hA [] rfl
        have hXc := ((hX.kept hS.1 hS.2.1).narrow hFc)
        refine va_calli (va_runS (As := [.ref b, .int (zi (2 * 2))]) (rest := [.ref q_1]) ⟨hx, hb, hml, hown, hts⟩ (c_L_cell l dC dI cI cZ cM cT H.size b L xs (2 * 2) (by first | assumption | omega | rfl) (by first | assumption | omega | rfl)) (va_cwS 2 hts (zz_gS (goodIn_of _ (by decide +kernel)) zg_c_L_cell) rfl rfl rfl (by decide +kernel) ⟨(by first | exact Nat.le_of_ble_eq_true rfl | omega), (by first | exact Nat.le_of_ble_eq_true rfl | omega)⟩) ⟨fun a U g mk q => by obtain ⟨q0, q1, qP, qK, qD, qX⟩ := q; exact ⟨q0, q1, qP, va_K.moved (u := U) (U := U.calling g mk a) (Vm.Alike.refl U.vm) qK, qD, qX.call⟩, fun U hU hW => ⟨rfl, by rw [hU], by rw [hU]; exact hPc, va_K.moved hW.alike hK, hDc.weaken (fun _ _ _ _ => trivial), by rw [hU]; exact hXc.warm hW⟩⟩ rfl rfl hl.1 rfl (lv_room (by first | exact Nat.le_of_ble_eq_true rfl | omega)) dL_law_20 ⟨(by first | exact Nat.le_of_ble_eq_true rfl | omega), (by first | exact Nat.le_of_ble_eq_true rfl | omega)⟩) hS (fun q _ h => hFc q h) hFc (fun r_32 u t H1 locs ht hvm hw hB hz1 hk1 hS => ?_)
        obtain ⟨hP1, hK1, hD1⟩ := hB
        rw [ht] at hP1
        obtain ⟨hP, hD⟩ := va_joinQ (wr := []) (w1 := []) (pl := (pq_WD cI cZ cM cT q_1 ms1_27 (0) (0) (0) κ1_26)) hP hD [] [] rfl rfl (by decide) (by decide) hk1 hFc hP1 hD1
        generalize H1 = H at hP hS ⊢
        have hP : va_P (dC, dI) vwCl ([] ++ (pq_WD cI cZ cM cT q_1 ms1_27 (0) (0) (0) κ1_26)) H := hP
        have hD : va_D A ([] ++ (pq_WD cI cZ cM cT q_1 ms1_27 (0) (0) (0) κ1_26)) := hD
        refine W.widen (k := 34) (n := 4371) (by first | exact Nat.le_of_ble_eq_true rfl | omega) (by first | exact Nat.le_of_ble_eq_true rfl | omega) ?_
        refine lv_aload_n hx hb dL_law_23 rfl (lv_at hl 2 rfl) ?_
        refine lv_iconst (v := zi 2) hx hb dL_law_24 (by decide) ?_
        refine lv_iload_n hx hb dL_law_25 rfl (lv_at hl 0 rfl) ?_
        refine pz_imul hx hb dL_law_26 ?_
        refine lv_iconst (v := zi 1) hx hb dL_law_27 (by decide) ?_
        refine pz_iadd hx hb dL_law_28 ?_
        have hPc := hP.sub (ws' := []) [] rfl
        have hDc := hD.sub (ws' := []) [] (by decide) rfl
        have hFc := va_free (wc := []) hD hS hA [] rfl
        have hXc := ((hX.kept hS.1 hS.2.1).narrow hFc)
        refine va_calli (va_runS (As := [.ref b, .int (zi ((2 * 2) + 1))]) (rest := [.int r_32, .ref q_1]) ⟨hx, hb, hml, hown, hts⟩ (c_L_cell l dC dI cI cZ cM cT H.size b L xs ((2 * 2) + 1) (by first | assumption | omega | rfl) (by first | assumption | omega | rfl)) (va_cwS 2 hts (zz_gS (goodIn_of _ (by decide +kernel)) zg_c_L_cell) rfl rfl rfl (by decide +kernel) ⟨(by first | exact Nat.le_of_ble_eq_true rfl | omega), (by first | exact Nat.le_of_ble_eq_true rfl | omega)⟩) ⟨fun a U g mk q => by obtain ⟨q0, q1, qP, qK, qD, qX⟩ := q; exact ⟨q0, q1, qP, va_K.moved (u := U) (U := U.calling g mk a) (Vm.Alike.refl U.vm) qK, qD, qX.call⟩, fun U hU hW => ⟨rfl, by rw [hU], by rw [hU]; exact hPc, va_K.moved hW.alike hK, hDc.weaken (fun _ _ _ _ => trivial), by rw [hU]; exact hXc.warm hW⟩⟩ rfl rfl hl.1 rfl (lv_room (by first | exact Nat.le_of_ble_eq_true rfl | omega)) dL_law_29 ⟨(by first | exact Nat.le_of_ble_eq_true rfl | omega), (by first | exact Nat.le_of_ble_eq_true rfl | omega)⟩) hS (fun q _ h => hFc q h) hFc (fun r_33 u t H1 locs ht hvm hw hB hz1 hk1 hS => ?_)
        obtain ⟨hP1, hK1, hD1⟩ := hB
        rw [ht] at hP1
        obtain ⟨hP, hD⟩ := va_joinQ (wr := []) (w1 := []) (pl := (pq_WD cI cZ cM cT q_1 ms1_27 (0) (0) (0) κ1_26)) hP hD [] [] rfl rfl (by decide) (by decide) hk1 hFc hP1 hD1
        generalize H1 = H at hP hS ⊢
        have hP : va_P (dC, dI) vwCl ([] ++ (pq_WD cI cZ cM cT q_1 ms1_27 (0) (0) (0) κ1_26)) H := hP
        have hD : va_D A ([] ++ (pq_WD cI cZ cM cT q_1 ms1_27 (0) (0) (0) κ1_26)) := hD
        refine W.widen (k := 34) (n := 4371) (by first | exact Nat.le_of_ble_eq_true rfl | omega) (by first | exact Nat.le_of_ble_eq_true rfl | omega) ?_
        refine lv_iconst (v := zi 4) hx hb dL_law_32 (by decide) ?_
        refine lv_aload_n hx hb dL_law_33 rfl (lv_at hl 2 rfl) ?_
        refine lv_bipush (v := zi 10) hx hb dL_law_34 (by decide) ?_
        have hPc := hP.sub (ws' := []) [] rfl
        have hDc := hD.sub (ws' := []) [] (by decide) rfl
        have hFc := va_free (wc := []) hD hS hA [] rfl
        have hXc := ((hX.kept hS.1 hS.2.1).narrow hFc)
        refine va_calli (va_runS (As := [.ref b, .int (zi 10)]) (rest := [.int (zi 4), .int r_33, .int r_32, .ref q_1]) ⟨hx, hb, hml, hown, hts⟩ (c_L_cell l dC dI cI cZ cM cT H.size b L xs 10 (by first | assumption | omega | rfl) (by first | assumption | omega | rfl)) (va_cwS 2 hts (zz_gS (goodIn_of _ (by decide +kernel)) zg_c_L_cell) rfl rfl rfl (by decide +kernel) ⟨(by first | exact Nat.le_of_ble_eq_true rfl | omega), (by first | exact Nat.le_of_ble_eq_true rfl | omega)⟩) ⟨fun a U g mk q => by obtain ⟨q0, q1, qP, qK, qD, qX⟩ := q; exact ⟨q0, q1, qP, va_K.moved (u := U) (U := U.calling g mk a) (Vm.Alike.refl U.vm) qK, qD, qX.call⟩, fun U hU hW => ⟨rfl, by rw [hU], by rw [hU]; exact hPc, va_K.moved hW.alike hK, hDc.weaken (fun _ _ _ _ => trivial), by rw [hU]; exact hXc.warm hW⟩⟩ rfl rfl hl.1 rfl (lv_room (by first | exact Nat.le_of_ble_eq_true rfl | omega)) dL_law_36 ⟨(by first | exact Nat.le_of_ble_eq_true rfl | omega), (by first | exact Nat.le_of_ble_eq_true rfl | omega)⟩) hS (fun q _ h => hFc q h) hFc (fun r_34 u t H1 locs ht hvm hw hB hz1 hk1 hS => ?_)
        obtain ⟨hP1, hK1, hD1⟩ := hB
        rw [ht] at hP1
        obtain ⟨hP, hD⟩ := va_joinQ (wr := []) (w1 := []) (pl := (pq_WD cI cZ cM cT q_1 ms1_27 (0) (0) (0) κ1_26)) hP hD [] [] rfl rfl (by decide) (by decide) hk1 hFc hP1 hD1
        generalize H1 = H at hP hS ⊢
        have hP : va_P (dC, dI) vwCl ([] ++ (pq_WD cI cZ cM cT q_1 ms1_27 (0) (0) (0) κ1_26)) H := hP
        have hD : va_D A ([] ++ (pq_WD cI cZ cM cT q_1 ms1_27 (0) (0) (0) κ1_26)) := hD
        refine W.widen (k := 34) (n := 4371) (by first | exact Nat.le_of_ble_eq_true rfl | omega) (by first | exact Nat.le_of_ble_eq_true rfl | omega) ?_
        refine lv_bipush (v := zi 6) hx hb dL_law_39 (by decide) ?_
        have hPc := hP.sub (ws' := []) [] rfl
        have hDc := hD.sub (ws' := []) [] (by decide) rfl
        have hFc := va_free (wc := []) hD hS hA [] rfl
        refine va_calli (va_runS (As := [.int r_34, .int (zi 6)]) (rest := [.int (zi 4), .int r_33, .int r_32, .ref q_1]) ⟨hx, hb, hml, hown, hts⟩ (c_L_below l dC dI cI cZ cM cT H.size r_34 6 (by first | assumption | omega | rfl)) (va_cwS 2 hts (zz_gS (goodIn_of _ (by decide +kernel)) zg_c_L_below) rfl rfl rfl (by decide +kernel) ⟨(by first | exact Nat.le_of_ble_eq_true rfl | omega), (by first | exact Nat.le_of_ble_eq_true rfl | omega)⟩) ⟨fun a U g mk q => by obtain ⟨q0, q1, qP, qK, qD⟩ := q; exact ⟨q0, q1, qP, va_K.moved (u := U) (U := U.calling g mk a) (Vm.Alike.refl U.vm) qK, qD⟩, fun U hU hW => ⟨rfl, by rw [hU], by rw [hU]; exact hPc, va_K.moved hW.alike hK, hDc.weaken (fun _ _ _ _ => trivial)⟩⟩ rfl rfl hl.1 rfl (lv_room (by first | exact Nat.le_of_ble_eq_true rfl | omega)) dL_law_41 ⟨(by first | exact Nat.le_of_ble_eq_true rfl | omega), (by first | exact Nat.le_of_ble_eq_true rfl | omega)⟩) hS (fun q _ h => hFc q h) hFc (fun r_35 u t H1 locs ht hvm hw hB hz1 hk1 hS => ?_)
        obtain ⟨hP1, hK1, hD1⟩ := hB
        rw [ht] at hP1
        obtain ⟨hP, hD⟩ := va_joinQ (wr := []) (w1 := []) (pl := (pq_WD cI cZ cM cT q_1 ms1_27 (0) (0) (0) κ1_26)) hP hD [] [] rfl rfl (by decide) (by decide) hk1 hFc hP1 hD1
        generalize H1 = H at hP hS ⊢
        have hP : va_P (dC, dI) vwCl ([] ++ (pq_WD cI cZ cM cT q_1 ms1_27 (0) (0) (0) κ1_26)) H := hP
        have hD : va_D A ([] ++ (pq_WD cI cZ cM cT q_1 ms1_27 (0) (0) (0) κ1_26)) := hD
        refine W.widen (k := 34) (n := 4371) (by first | exact Nat.le_of_ble_eq_true rfl | omega) (by first | exact Nat.le_of_ble_eq_true rfl | omega) ?_
        obtain ⟨q_36, rfl, hq_37⟩ := hw
        refine pz_iadd hx hb dL_law_44 ?_
        have hPc := hP.part (cx := []) [] rfl
        have hDc := hD.part (cx := []) [] (by decide) rfl
        have hFc := va_freeP (cx := []) hD hS hA [] rfl
        refine va_calli (va_runS (As := [.ref q_1, .int r_32, .int r_33, .int (zi (4 + q_36))]) (rest := []) ⟨hx, hb, hml, hown, hts⟩ (c_L_machine l dC dI cI cZ cM cT H.size q_1 ms1_27 0 0 0 κ1_26 r_32 r_33 (4 + q_36) hmf_30.1 hz_28 (by have := hmf_30.2; omega) (by first | assumption | omega | rfl)) (va_cwS 4 hts (zz_gS (goodIn_of _ (by decide +kernel)) zg_c_L_machine) rfl rfl rfl (by decide +kernel) ⟨(by first | exact Nat.le_of_ble_eq_true rfl | omega), (by first | exact Nat.le_of_ble_eq_true rfl | omega)⟩) ⟨fun a U g mk q => by obtain ⟨q0, q1, qP, qK, qD⟩ := q; exact ⟨q0, q1, qP, va_K.moved (u := U) (U := U.calling g mk a) (Vm.Alike.refl U.vm) qK, qD⟩, fun U hU hW => ⟨rfl, by rw [hU], by rw [hU]; exact hPc, va_K.moved hW.alike hK, hDc.weaken (fun _ _ _ _ => trivial)⟩⟩ rfl rfl hl.1 rfl (lv_room (by first | exact Nat.le_of_ble_eq_true rfl | omega)) dL_law_45 ⟨(by first | exact Nat.le_of_ble_eq_true rfl | omega), (by first | exact Nat.le_of_ble_eq_true rfl | omega)⟩) hS (fun q _ h => hFc q h) hFc (fun r_38 u t H1 locs ht hvm hw hB hz1 hk1 hS => ?_)
        obtain ⟨κ1_39, ms1_40, hz_41, hm_42, hP1, hK1, hD1⟩ := hB
        rw [ht] at hP1
        obtain ⟨hP, hD⟩ := va_joinP (wr := []) (rx := []) (pl1 := (pq_WD cI cZ cM cT q_1 ms1_40 (0) (0) (0) κ1_39)) hP hD [] [] rfl rfl (by decide) (by decide) hk1 hFc hP1 hD1
        generalize H1 = H at hP hS ⊢
        have hP : va_P (dC, dI) vwCl ([] ++ (pq_WD cI cZ cM cT q_1 ms1_40 (0) (0) (0) κ1_39)) H := hP
        have hD : va_D A ([] ++ (pq_WD cI cZ cM cT q_1 ms1_40 (0) (0) (0) κ1_39)) := hD
        refine W.widen (k := 38) (n := 4402) (by first | exact Nat.le_of_ble_eq_true rfl | omega) (by first | exact Nat.le_of_ble_eq_true rfl | omega) ?_
        have hmf_43 : pq_mo ms1_40 ∧ ms1_40.length = 3 := ⟨hm_42.1, by have h1 := hm_42.2; have h2 := hmf_30.2; omega⟩
        refine lv_pop hx hb dL_law_48 rfl ?_
        refine pz_iinc (lv' := [(2, .int (zi 3)), (1, .ref q_1), (0, .ref b)]) hx hb dL_law_49 hl (k := 0) rfl (by decide) rfl (fun ls hl => ?_)
        refine lv_goto (tgt := 10) hx hb dL_law_52 (by decide) ?_
        refine lv_iload_n hx hb dL_law_10 rfl (lv_at hl 0 rfl) ?_
        refine lv_iconst (v := zi 5) hx hb dL_law_11 (by decide) ?_
        refine pz_icmp_ge (tgt := 55) hx hb (by omega) dL_law_12 (by decide) (fun c_44 => ?_) (fun c_44 => ?_)
        · exact absurd c_44 (by omega)
        · refine lv_aload_n hx hb dL_law_15 rfl (lv_at hl 1 rfl) ?_
          refine lv_aload_n hx hb dL_law_16 rfl (lv_at hl 2 rfl) ?_
          refine lv_iconst (v := zi 2) hx hb dL_law_17 (by decide) ?_
          refine lv_iload_n hx hb dL_law_18 rfl (lv_at hl 0 rfl) ?_
          refine pz_imul hx hb dL_law_19 ?_
          have hPc := hP.sub (ws' := []) [] rfl
          have hDc := hD.sub (ws' := []) [] (by decide) rfl
          have hFc := va_free (wc := []) hD hS hA [] rfl
          have hXc := ((hX.kept hS.1 hS.2.1).narrow hFc)
          refine va_calli (va_runS (As := [.ref b, .int (zi (2 * 3))]) (rest := [.ref q_1]) ⟨hx, hb, hml, hown, hts⟩ (c_L_cell l dC dI cI cZ cM cT H.size b L xs (2 * 3) (by first | assumption | omega | rfl) (by first | assumption | omega | rfl)) (va_cwS 2 hts (zz_gS (goodIn_of _ (by decide +kernel)) zg_c_L_cell) rfl rfl rfl (by decide +kernel) ⟨(by first | exact Nat.le_of_ble_eq_true rfl | omega), (by first | exact Nat.le_of_ble_eq_true rfl | omega)⟩) ⟨fun a U g mk q => by obtain ⟨q0, q1, qP, qK, qD, qX⟩ := q; exact ⟨q0, q1, qP, va_K.moved (u := U) (U := U.calling g mk a) (Vm.Alike.refl U.vm) qK, qD, qX.call⟩, fun U hU hW => ⟨rfl, by rw [hU], by rw [hU]; exact hPc, va_K.moved hW.alike hK, hDc.weaken (fun _ _ _ _ => trivial), by rw [hU]; exact hXc.warm hW⟩⟩ rfl rfl hl.1 rfl (lv_room (by first | exact Nat.le_of_ble_eq_true rfl | omega)) dL_law_20 ⟨(by first | exact Nat.le_of_ble_eq_true rfl | omega), (by first | exact Nat.le_of_ble_eq_true rfl | omega)⟩) hS (fun q _ h => hFc q h) hFc (fun r_45 u t H1 locs ht hvm hw hB hz1 hk1 hS => ?_)
          obtain ⟨hP1, hK1, hD1⟩ := hB
          rw [ht] at hP1
          obtain ⟨hP, hD⟩ := va_joinQ (wr := []) (w1 := []) (pl := (pq_WD cI cZ cM cT q_1 ms1_40 (0) (0) (0) κ1_39)) hP hD [] [] rfl rfl (by decide) (by decide) hk1 hFc hP1 hD1
          generalize H1 = H at hP hS ⊢
          have hP : va_P (dC, dI) vwCl ([] ++ (pq_WD cI cZ cM cT q_1 ms1_40 (0) (0) (0) κ1_39)) H := hP
          have hD : va_D A ([] ++ (pq_WD cI cZ cM cT q_1 ms1_40 (0) (0) (0) κ1_39)) := hD
          refine W.widen (k := 38) (n := 4402) (by first | exact Nat.le_of_ble_eq_true rfl | omega) (by first | exact Nat.le_of_ble_eq_true rfl | omega) ?_
          refine lv_aload_n hx hb dL_law_23 rfl (lv_at hl 2 rfl) ?_
          refine lv_iconst (v := zi 2) hx hb dL_law_24 (by decide) ?_
          refine lv_iload_n hx hb dL_law_25 rfl (lv_at hl 0 rfl) ?_
          refine pz_imul hx hb dL_law_26 ?_
          refine lv_iconst (v := zi 1) hx hb dL_law_27 (by decide) ?_
          refine pz_iadd hx hb dL_law_28 ?_
          have hPc := hP.sub (ws' := []) [] rfl
          have hDc := hD.sub (ws' := []) [] (by decide) rfl
          have hFc := va_free (wc := []) hD hS hA [] rfl
          have hXc := ((hX.kept hS.1 hS.2.1).narrow hFc)
          refine va_calli (va_runS (As := [.ref b, .int (zi ((2 * 3) + 1))]) (rest := [.int r_45, .ref q_1]) ⟨hx, hb, hml, hown, hts⟩ (c_L_cell l dC dI cI cZ cM cT H.size b L xs ((2 * 3) + 1) (by first | assumption | omega | rfl) (by first | assumption | omega | rfl)) (va_cwS 2 hts (zz_gS (goodIn_of _ (by decide +kernel)) zg_c_L_cell) rfl rfl rfl (by decide +kernel) ⟨(by first | exact Nat.le_of_ble_eq_true rfl | omega), (by first | exact Nat.le_of_ble_eq_true rfl | omega)⟩) ⟨fun a U g mk q => by obtain ⟨q0, q1, qP, qK, qD, qX⟩ := q; exact ⟨q0, q1, qP, va_K.moved (u := U) (U := U.calling g mk a) (Vm.Alike.refl U.vm) qK, qD, qX.call⟩, fun U hU hW => ⟨rfl, by rw [hU], by rw [hU]; exact hPc, va_K.moved hW.alike hK, hDc.weaken (fun _ _ _ _ => trivial), by rw [hU]; exact hXc.warm hW⟩⟩ rfl rfl hl.1 rfl (lv_room (by first | exact Nat.le_of_ble_eq_true rfl | omega)) dL_law_29 ⟨(by first | exact Nat.le_of_ble_eq_true rfl | omega), (by first | exact Nat.le_of_ble_eq_true rfl | omega)⟩) hS (fun q _ h => hFc q h) hFc (fun r_46 u t H1 locs ht hvm hw hB hz1 hk1 hS => ?_)
          obtain ⟨hP1, hK1, hD1⟩ := hB
          rw [ht] at hP1
          obtain ⟨hP, hD⟩ := va_joinQ (wr := []) (w1 := []) (pl := (pq_WD cI cZ cM cT q_1 ms1_40 (0) (0) (0) κ1_39)) hP hD [] [] rfl rfl (by decide) (by decide) hk1 hFc hP1 hD1
          generalize H1 = H at hP hS ⊢
          have hP : va_P (dC, dI) vwCl ([] ++ (pq_WD cI cZ cM cT q_1 ms1_40 (0) (0) (0) κ1_39)) H := hP
          have hD : va_D A ([] ++ (pq_WD cI cZ cM cT q_1 ms1_40 (0) (0) (0) κ1_39)) := hD
          refine W.widen (k := 38) (n := 4402) (by first | exact Nat.le_of_ble_eq_true rfl | omega) (by first | exact Nat.le_of_ble_eq_true rfl | omega) ?_
          refine lv_iconst (v := zi 4) hx hb dL_law_32 (by decide) ?_
          refine lv_aload_n hx hb dL_law_33 rfl (lv_at hl 2 rfl) ?_
          refine lv_bipush (v := zi 10) hx hb dL_law_34 (by decide) ?_
          have hPc := hP.sub (ws' := []) [] rfl
          have hDc := hD.sub (ws' := []) [] (by decide) rfl
          have hFc := va_free (wc := []) hD hS hA [] rfl
          have hXc := ((hX.kept hS.1 hS.2.1).narrow hFc)
          refine va_calli (va_runS (As := [.ref b, .int (zi 10)]) (rest := [.int (zi 4), .int r_46, .int r_45, .ref q_1]) ⟨hx, hb, hml, hown, hts⟩ (c_L_cell l dC dI cI cZ cM cT H.size b L xs 10 (by first | assumption | omega | rfl) (by first | assumption | omega | rfl)) (va_cwS 2 hts (zz_gS (goodIn_of _ (by decide +kernel)) zg_c_L_cell) rfl rfl rfl (by decide +kernel) ⟨(by first | exact Nat.le_of_ble_eq_true rfl | omega), (by first | exact Nat.le_of_ble_eq_true rfl | omega)⟩) ⟨fun a U g mk q => by obtain ⟨q0, q1, qP, qK, qD, qX⟩ := q; exact ⟨q0, q1, qP, va_K.moved (u := U) (U := U.calling g mk a) (Vm.Alike.refl U.vm) qK, qD, qX.call⟩, fun U hU hW => ⟨rfl, by rw [hU], by rw [hU]; exact hPc, va_K.moved hW.alike hK, hDc.weaken (fun _ _ _ _ => trivial), by rw [hU]; exact hXc.warm hW⟩⟩ rfl rfl hl.1 rfl (lv_room (by first | exact Nat.le_of_ble_eq_true rfl | omega)) dL_law_36 ⟨(by first | exact Nat.le_of_ble_eq_true rfl | omega), (by first | exact Nat.le_of_ble_eq_true rfl | omega)⟩) hS (fun q _ h => hFc q h) hFc (fun r_47 u t H1 locs ht hvm hw hB hz1 hk1 hS => ?_)
          obtain ⟨hP1, hK1, hD1⟩ := hB
          rw [ht] at hP1
          obtain ⟨hP, hD⟩ := va_joinQ (wr := []) (w1 := []) (pl := (pq_WD cI cZ cM cT q_1 ms1_40 (0) (0) (0) κ1_39)) hP hD [] [] rfl rfl (by decide) (by decide) hk1 hFc hP1 hD1
          generalize H1 = H at hP hS ⊢
          have hP : va_P (dC, dI) vwCl ([] ++ (pq_WD cI cZ cM cT q_1 ms1_40 (0) (0) (0) κ1_39)) H := hP
          have hD : va_D A ([] ++ (pq_WD cI cZ cM cT q_1 ms1_40 (0) (0) (0) κ1_39)) := hD
          refine W.widen (k := 38) (n := 4402) (by first | exact Nat.le_of_ble_eq_true rfl | omega) (by first | exact Nat.le_of_ble_eq_true rfl | omega) ?_
          refine lv_bipush (v := zi 6) hx hb dL_law_39 (by decide) ?_
          have hPc := hP.sub (ws' := []) [] rfl
          have hDc := hD.sub (ws' := []) [] (by decide) rfl
          have hFc := va_free (wc := []) hD hS hA [] rfl
          refine va_calli (va_runS (As := [.int r_47, .int (zi 6)]) (rest := [.int (zi 4), .int r_46, .int r_45, .ref q_1]) ⟨hx, hb, hml, hown, hts⟩ (c_L_below l dC dI cI cZ cM cT H.size r_47 6 (by first | assumption | omega | rfl)) (va_cwS 2 hts (zz_gS (goodIn_of _ (by decide +kernel)) zg_c_L_below) rfl rfl rfl (by decide +kernel) ⟨(by first | exact Nat.le_of_ble_eq_true rfl | omega), (by first | exact Nat.le_of_ble_eq_true rfl | omega)⟩) ⟨fun a U g mk q => by obtain ⟨q0, q1, qP, qK, qD⟩ := q; exact ⟨q0, q1, qP, va_K.moved (u := U) (U := U.calling g mk a) (Vm.Alike.refl U.vm) qK, qD⟩, fun U hU hW => ⟨rfl, by rw [hU], by rw [hU]; exact hPc, va_K.moved hW.alike hK, hDc.weaken (fun _ _ _ _ => trivial)⟩⟩ rfl rfl hl.1 rfl (lv_room (by first | exact Nat.le_of_ble_eq_true rfl | omega)) dL_law_41 ⟨(by first | exact Nat.le_of_ble_eq_true rfl | omega), (by first | exact Nat.le_of_ble_eq_true rfl | omega)⟩) hS (fun q _ h => hFc q h) hFc (fun r_48 u t H1 locs ht hvm hw hB hz1 hk1 hS => ?_)
          obtain ⟨hP1, hK1, hD1⟩ := hB
          rw [ht] at hP1
          obtain ⟨hP, hD⟩ := va_joinQ (wr := []) (w1 := []) (pl := (pq_WD cI cZ cM cT q_1 ms1_40 (0) (0) (0) κ1_39)) hP hD [] [] rfl rfl (by decide) (by decide) hk1 hFc hP1 hD1
          generalize H1 = H at hP hS ⊢
          have hP : va_P (dC, dI) vwCl ([] ++ (pq_WD cI cZ cM cT q_1 ms1_40 (0) (0) (0) κ1_39)) H := hP
          have hD : va_D A ([] ++ (pq_WD cI cZ cM cT q_1 ms1_40 (0) (0) (0) κ1_39)) := hD
          refine W.widen (k := 38) (n := 4402) (by first | exact Nat.le_of_ble_eq_true rfl | omega) (by first | exact Nat.le_of_ble_eq_true rfl | omega) ?_
          obtain ⟨q_49, rfl, hq_50⟩ := hw
          refine pz_iadd hx hb dL_law_44 ?_
          have hPc := hP.part (cx := []) [] rfl
          have hDc := hD.part (cx := []) [] (by decide) rfl
          have hFc := va_freeP (cx := []) hD hS hA [] rfl
          refine va_calli (va_runS (As := [.ref q_1, .int r_45, .int r_46, .int (zi (4 + q_49))]) (rest := []) ⟨hx, hb, hml, hown, hts⟩ (c_L_machine l dC dI cI cZ cM cT H.size q_1 ms1_40 0 0 0 κ1_39 r_45 r_46 (4 + q_49) hmf_43.1 hz_41 (by have := hmf_43.2; omega) (by first | assumption | omega | rfl)) (va_cwS 4 hts (zz_gS (goodIn_of _ (by decide +kernel)) zg_c_L_machine) rfl rfl rfl (by decide +kernel) ⟨(by first | exact Nat.le_of_ble_eq_true rfl | omega), (by first | exact Nat.le_of_ble_eq_true rfl | omega)⟩) ⟨fun a U g mk q => by obtain ⟨q0, q1, qP, qK, qD⟩ := q; exact ⟨q0, q1, qP, va_K.moved (u := U) (U := U.calling g mk a) (Vm.Alike.refl U.vm) qK, qD⟩, fun U hU hW => ⟨rfl, by rw [hU], by rw [hU]; exact hPc, va_K.moved hW.alike hK, hDc.weaken (fun _ _ _ _ => trivial)⟩⟩ rfl rfl hl.1 rfl (lv_room (by first | exact Nat.le_of_ble_eq_true rfl | omega)) dL_law_45 ⟨(by first | exact Nat.le_of_ble_eq_true rfl | omega), (by first | exact Nat.le_of_ble_eq_true rfl | omega)⟩) hS (fun q _ h => hFc q h) hFc (fun r_51 u t H1 locs ht hvm hw hB hz1 hk1 hS => ?_)
          obtain ⟨κ1_52, ms1_53, hz_54, hm_55, hP1, hK1, hD1⟩ := hB
          rw [ht] at hP1
          obtain ⟨hP, hD⟩ := va_joinP (wr := []) (rx := []) (pl1 := (pq_WD cI cZ cM cT q_1 ms1_53 (0) (0) (0) κ1_52)) hP hD [] [] rfl rfl (by decide) (by decide) hk1 hFc hP1 hD1
          generalize H1 = H at hP hS ⊢
          have hP : va_P (dC, dI) vwCl ([] ++ (pq_WD cI cZ cM cT q_1 ms1_53 (0) (0) (0) κ1_52)) H := hP
          have hD : va_D A ([] ++ (pq_WD cI cZ cM cT q_1 ms1_53 (0) (0) (0) κ1_52)) := hD
          refine W.widen (k := 42) (n := 4433) (by first | exact Nat.le_of_ble_eq_true rfl | omega) (by first | exact Nat.le_of_ble_eq_true rfl | omega) ?_
          have hmf_56 : pq_mo ms1_53 ∧ ms1_53.length = 4 := ⟨hm_55.1, by have h1 := hm_55.2; have h2 := hmf_43.2; omega⟩
          refine lv_pop hx hb dL_law_48 rfl ?_
          refine pz_iinc (lv' := [(2, .int (zi 4)), (1, .ref q_1), (0, .ref b)]) hx hb dL_law_49 hl (k := 0) rfl (by decide) rfl (fun ls hl => ?_)
          refine lv_goto (tgt := 10) hx hb dL_law_52 (by decide) ?_
          refine lv_iload_n hx hb dL_law_10 rfl (lv_at hl 0 rfl) ?_
          refine lv_iconst (v := zi 5) hx hb dL_law_11 (by decide) ?_
          refine pz_icmp_ge (tgt := 55) hx hb (by omega) dL_law_12 (by decide) (fun c_57 => ?_) (fun c_57 => ?_)
          · exact absurd c_57 (by omega)
          · refine lv_aload_n hx hb dL_law_15 rfl (lv_at hl 1 rfl) ?_
            refine lv_aload_n hx hb dL_law_16 rfl (lv_at hl 2 rfl) ?_
            refine lv_iconst (v := zi 2) hx hb dL_law_17 (by decide) ?_
            refine lv_iload_n hx hb dL_law_18 rfl (lv_at hl 0 rfl) ?_
            refine pz_imul hx hb dL_law_19 ?_
            have hPc := hP.sub (ws' := []) [] rfl
            have hDc := hD.sub (ws' := []) [] (by decide) rfl
            have hFc := va_free (wc := []) hD hS hA [] rfl
            have hXc := ((hX.kept hS.1 hS.2.1).narrow hFc)
            refine va_calli (va_runS (As := [.ref b, .int (zi (2 * 4))]) (rest := [.ref q_1]) ⟨hx, hb, hml, hown, hts⟩ (c_L_cell l dC dI cI cZ cM cT H.size b L xs (2 * 4) (by first | assumption | omega | rfl) (by first | assumption | omega | rfl)) (va_cwS 2 hts (zz_gS (goodIn_of _ (by decide +kernel)) zg_c_L_cell) rfl rfl rfl (by decide +kernel) ⟨(by first | exact Nat.le_of_ble_eq_true rfl | omega), (by first | exact Nat.le_of_ble_eq_true rfl | omega)⟩) ⟨fun a U g mk q => by obtain ⟨q0, q1, qP, qK, qD, qX⟩ := q; exact ⟨q0, q1, qP, va_K.moved (u := U) (U := U.calling g mk a) (Vm.Alike.refl U.vm) qK, qD, qX.call⟩, fun U hU hW => ⟨rfl, by rw [hU], by rw [hU]; exact hPc, va_K.moved hW.alike hK, hDc.weaken (fun _ _ _ _ => trivial), by rw [hU]; exact hXc.warm hW⟩⟩ rfl rfl hl.1 rfl (lv_room (by first | exact Nat.le_of_ble_eq_true rfl | omega)) dL_law_20 ⟨(by first | exact Nat.le_of_ble_eq_true rfl | omega), (by first | exact Nat.le_of_ble_eq_true rfl | omega)⟩) hS (fun q _ h => hFc q h) hFc (fun r_58 u t H1 locs ht hvm hw hB hz1 hk1 hS => ?_)
            obtain ⟨hP1, hK1, hD1⟩ := hB
            rw [ht] at hP1
            obtain ⟨hP, hD⟩ := va_joinQ (wr := []) (w1 := []) (pl := (pq_WD cI cZ cM cT q_1 ms1_53 (0) (0) (0) κ1_52)) hP hD [] [] rfl rfl (by decide) (by decide) hk1 hFc hP1 hD1
            generalize H1 = H at hP hS ⊢
            have hP : va_P (dC, dI) vwCl ([] ++ (pq_WD cI cZ cM cT q_1 ms1_53 (0) (0) (0) κ1_52)) H := hP
            have hD : va_D A ([] ++ (pq_WD cI cZ cM cT q_1 ms1_53 (0) (0) (0) κ1_52)) := hD
            refine W.widen (k := 42) (n := 4433) (by first | exact Nat.le_of_ble_eq_true rfl | omega) (by first | exact Nat.le_of_ble_eq_true rfl | omega) ?_
            refine lv_aload_n hx hb dL_law_23 rfl (lv_at hl 2 rfl) ?_
            refine lv_iconst (v := zi 2) hx hb dL_law_24 (by decide) ?_
            refine lv_iload_n hx hb dL_law_25 rfl (lv_at hl 0 rfl) ?_
            refine pz_imul hx hb dL_law_26 ?_
            refine lv_iconst (v := zi 1) hx hb dL_law_27 (by decide) ?_
            refine pz_iadd hx hb dL_law_28 ?_
            have hPc := hP.sub (ws' := []) [] rfl
            have hDc := hD.sub (ws' := []) [] (by decide) rfl
            have hFc := va_free (wc := []) hD hS hA [] rfl
            have hXc := ((hX.kept hS.1 hS.2.1).narrow hFc)
            refine va_calli (va_runS (As := [.ref b, .int (zi ((2 * 4) + 1))]) (rest := [.int r_58, .ref q_1]) ⟨hx, hb, hml, hown, hts⟩ (c_L_cell l dC dI cI cZ cM cT H.size b L xs ((2 * 4) + 1) (by first | assumption | omega | rfl) (by first | assumption | omega | rfl)) (va_cwS 2 hts (zz_gS (goodIn_of _ (by decide +kernel)) zg_c_L_cell) rfl rfl rfl (by decide +kernel) ⟨(by first | exact Nat.le_of_ble_eq_true rfl | omega), (by first | exact Nat.le_of_ble_eq_true rfl | omega)⟩) ⟨fun a U g mk q => by obtain ⟨q0, q1, qP, qK, qD, qX⟩ := q; exact ⟨q0, q1, qP, va_K.moved (u := U) (U := U.calling g mk a) (Vm.Alike.refl U.vm) qK, qD, qX.call⟩, fun U hU hW => ⟨rfl, by rw [hU], by rw [hU]; exact hPc, va_K.moved hW.alike hK, hDc.weaken (fun _ _ _ _ => trivial), by rw [hU]; exact hXc.warm hW⟩⟩ rfl rfl hl.1 rfl (lv_room (by first | exact Nat.le_of_ble_eq_true rfl | omega)) dL_law_29 ⟨(by first | exact Nat.le_of_ble_eq_true rfl | omega), (by first | exact Nat.le_of_ble_eq_true rfl | omega)⟩) hS (fun q _ h => hFc q h) hFc (fun r_59 u t H1 locs ht hvm hw hB hz1 hk1 hS => ?_)
            obtain ⟨hP1, hK1, hD1⟩ := hB
            rw [ht] at hP1
            obtain ⟨hP, hD⟩ := va_joinQ (wr := []) (w1 := []) (pl := (pq_WD cI cZ cM cT q_1 ms1_53 (0) (0) (0) κ1_52)) hP hD [] [] rfl rfl (by decide) (by decide) hk1 hFc hP1 hD1
            generalize H1 = H at hP hS ⊢
            have hP : va_P (dC, dI) vwCl ([] ++ (pq_WD cI cZ cM cT q_1 ms1_53 (0) (0) (0) κ1_52)) H := hP
            have hD : va_D A ([] ++ (pq_WD cI cZ cM cT q_1 ms1_53 (0) (0) (0) κ1_52)) := hD
            refine W.widen (k := 42) (n := 4433) (by first | exact Nat.le_of_ble_eq_true rfl | omega) (by first | exact Nat.le_of_ble_eq_true rfl | omega) ?_
            refine lv_iconst (v := zi 4) hx hb dL_law_32 (by decide) ?_
            refine lv_aload_n hx hb dL_law_33 rfl (lv_at hl 2 rfl) ?_
            refine lv_bipush (v := zi 10) hx hb dL_law_34 (by decide) ?_
            have hPc := hP.sub (ws' := []) [] rfl
            have hDc := hD.sub (ws' := []) [] (by decide) rfl
            have hFc := va_free (wc := []) hD hS hA [] rfl
            have hXc := ((hX.kept hS.1 hS.2.1).narrow hFc)
            refine va_calli (va_runS (As := [.ref b, .int (zi 10)]) (rest := [.int (zi 4), .int r_59, .int r_58, .ref q_1]) ⟨hx, hb, hml, hown, hts⟩ (c_L_cell l dC dI cI cZ cM cT H.size b L xs 10 (by first | assumption | omega | rfl) (by first | assumption | omega | rfl)) (va_cwS 2 hts (zz_gS (goodIn_of _ (by decide +kernel)) zg_c_L_cell) rfl rfl rfl (by decide +kernel) ⟨(by first | exact Nat.le_of_ble_eq_true rfl | omega), (by first | exact Nat.le_of_ble_eq_true rfl | omega)⟩) ⟨fun a U g mk q => by obtain ⟨q0, q1, qP, qK, qD, qX⟩ := q; exact ⟨q0, q1, qP, va_K.moved (u := U) (U := U.calling g mk a) (Vm.Alike.refl U.vm) qK, qD, qX.call⟩, fun U hU hW => ⟨rfl, by rw [hU], by rw [hU]; exact hPc, va_K.moved hW.alike hK, hDc.weaken (fun _ _ _ _ => trivial), by rw [hU]; exact hXc.warm hW⟩⟩ rfl rfl hl.1 rfl (lv_room (by first | exact Nat.le_of_ble_eq_true rfl | omega)) dL_law_36 ⟨(by first | exact Nat.le_of_ble_eq_true rfl | omega), (by first | exact Nat.le_of_ble_eq_true rfl | omega)⟩) hS (fun q _ h => hFc q h) hFc (fun r_60 u t H1 locs ht hvm hw hB hz1 hk1 hS => ?_)
            obtain ⟨hP1, hK1, hD1⟩ := hB
            rw [ht] at hP1
            obtain ⟨hP, hD⟩ := va_joinQ (wr := []) (w1 := []) (pl := (pq_WD cI cZ cM cT q_1 ms1_53 (0) (0) (0) κ1_52)) hP hD [] [] rfl rfl (by decide) (by decide) hk1 hFc hP1 hD1
            generalize H1 = H at hP hS ⊢
            have hP : va_P (dC, dI) vwCl ([] ++ (pq_WD cI cZ cM cT q_1 ms1_53 (0) (0) (0) κ1_52)) H := hP
            have hD : va_D A ([] ++ (pq_WD cI cZ cM cT q_1 ms1_53 (0) (0) (0) κ1_52)) := hD
            refine W.widen (k := 42) (n := 4433) (by first | exact Nat.le_of_ble_eq_true rfl | omega) (by first | exact Nat.le_of_ble_eq_true rfl | omega) ?_
            refine lv_bipush (v := zi 6) hx hb dL_law_39 (by decide) ?_
            have hPc := hP.sub (ws' := []) [] rfl
            have hDc := hD.sub (ws' := []) [] (by decide) rfl
            have hFc := va_free (wc := []) hD hS hA [] rfl
            refine va_calli (va_runS (As := [.int r_60, .int (zi 6)]) (rest := [.int (zi 4), .int r_59, .int r_58, .ref q_1]) ⟨hx, hb, hml, hown, hts⟩ (c_L_below l dC dI cI cZ cM cT H.size r_60 6 (by first | assumption | omega | rfl)) (va_cwS 2 hts (zz_gS (goodIn_of _ (by decide +kernel)) zg_c_L_below) rfl rfl rfl (by decide +kernel) ⟨(by first | exact Nat.le_of_ble_eq_true rfl | omega), (by first | exact Nat.le_of_ble_eq_true rfl | omega)⟩) ⟨fun a U g mk q => by obtain ⟨q0, q1, qP, qK, qD⟩ := q; exact ⟨q0, q1, qP, va_K.moved (u := U) (U := U.calling g mk a) (Vm.Alike.refl U.vm) qK, qD⟩, fun U hU hW => ⟨rfl, by rw [hU], by rw [hU]; exact hPc, va_K.moved hW.alike hK, hDc.weaken (fun _ _ _ _ => trivial)⟩⟩ rfl rfl hl.1 rfl (lv_room (by first | exact Nat.le_of_ble_eq_true rfl | omega)) dL_law_41 ⟨(by first | exact Nat.le_of_ble_eq_true rfl | omega), (by first | exact Nat.le_of_ble_eq_true rfl | omega)⟩) hS (fun q _ h => hFc q h) hFc (fun r_61 u t H1 locs ht hvm hw hB hz1 hk1 hS => ?_)
            obtain ⟨hP1, hK1, hD1⟩ := hB
            rw [ht] at hP1
            obtain ⟨hP, hD⟩ := va_joinQ (wr := []) (w1 := []) (pl := (pq_WD cI cZ cM cT q_1 ms1_53 (0) (0) (0) κ1_52)) hP hD [] [] rfl rfl (by decide) (by decide) hk1 hFc hP1 hD1
            generalize H1 = H at hP hS ⊢
            have hP : va_P (dC, dI) vwCl ([] ++ (pq_WD cI cZ cM cT q_1 ms1_53 (0) (0) (0) κ1_52)) H := hP
            have hD : va_D A ([] ++ (pq_WD cI cZ cM cT q_1 ms1_53 (0) (0) (0) κ1_52)) := hD
            refine W.widen (k := 42) (n := 4433) (by first | exact Nat.le_of_ble_eq_true rfl | omega) (by first | exact Nat.le_of_ble_eq_true rfl | omega) ?_
            obtain ⟨q_62, rfl, hq_63⟩ := hw
            refine pz_iadd hx hb dL_law_44 ?_
            have hPc := hP.part (cx := []) [] rfl
            have hDc := hD.part (cx := []) [] (by decide) rfl
            have hFc := va_freeP (cx := []) hD hS hA [] rfl
            refine va_calli (va_runS (As := [.ref q_1, .int r_58, .int r_59, .int (zi (4 + q_62))]) (rest := []) ⟨hx, hb, hml, hown, hts⟩ (c_L_machine l dC dI cI cZ cM cT H.size q_1 ms1_53 0 0 0 κ1_52 r_58 r_59 (4 + q_62) hmf_56.1 hz_54 (by have := hmf_56.2; omega) (by first | assumption | omega | rfl)) (va_cwS 4 hts (zz_gS (goodIn_of _ (by decide +kernel)) zg_c_L_machine) rfl rfl rfl (by decide +kernel) ⟨(by first | exact Nat.le_of_ble_eq_true rfl | omega), (by first | exact Nat.le_of_ble_eq_true rfl | omega)⟩) ⟨fun a U g mk q => by obtain ⟨q0, q1, qP, qK, qD⟩ := q; exact ⟨q0, q1, qP, va_K.moved (u := U) (U := U.calling g mk a) (Vm.Alike.refl U.vm) qK, qD⟩, fun U hU hW => ⟨rfl, by rw [hU], by rw [hU]; exact hPc, va_K.moved hW.alike hK, hDc.weaken (fun _ _ _ _ => trivial)⟩⟩ rfl rfl hl.1 rfl (lv_room (by first | exact Nat.le_of_ble_eq_true rfl | omega)) dL_law_45 ⟨(by first | exact Nat.le_of_ble_eq_true rfl | omega), (by first | exact Nat.le_of_ble_eq_true rfl | omega)⟩) hS (fun q _ h => hFc q h) hFc (fun r_64 u t H1 locs ht hvm hw hB hz1 hk1 hS => ?_)
            obtain ⟨κ1_65, ms1_66, hz_67, hm_68, hP1, hK1, hD1⟩ := hB
            rw [ht] at hP1
            obtain ⟨hP, hD⟩ := va_joinP (wr := []) (rx := []) (pl1 := (pq_WD cI cZ cM cT q_1 ms1_66 (0) (0) (0) κ1_65)) hP hD [] [] rfl rfl (by decide) (by decide) hk1 hFc hP1 hD1
            generalize H1 = H at hP hS ⊢
            have hP : va_P (dC, dI) vwCl ([] ++ (pq_WD cI cZ cM cT q_1 ms1_66 (0) (0) (0) κ1_65)) H := hP
            have hD : va_D A ([] ++ (pq_WD cI cZ cM cT q_1 ms1_66 (0) (0) (0) κ1_65)) := hD
            refine W.widen (k := 46) (n := 4464) (by first | exact Nat.le_of_ble_eq_true rfl | omega) (by first | exact Nat.le_of_ble_eq_true rfl | omega) ?_
            have hmf_69 : pq_mo ms1_66 ∧ ms1_66.length = 5 := ⟨hm_68.1, by have h1 := hm_68.2; have h2 := hmf_56.2; omega⟩
            refine lv_pop hx hb dL_law_48 rfl ?_
            refine pz_iinc (lv' := [(2, .int (zi 5)), (1, .ref q_1), (0, .ref b)]) hx hb dL_law_49 hl (k := 0) rfl (by decide) rfl (fun ls hl => ?_)
            refine lv_goto (tgt := 10) hx hb dL_law_52 (by decide) ?_
            refine lv_iload_n hx hb dL_law_10 rfl (lv_at hl 0 rfl) ?_
            refine lv_iconst (v := zi 5) hx hb dL_law_11 (by decide) ?_
            refine pz_icmp_ge (tgt := 55) hx hb (by omega) dL_law_12 (by decide) (fun c_70 => ?_) (fun c_70 => ?_)
            · refine lv_iconst (v := zi 0) hx hb dL_law_55 (by decide) ?_
              refine lv_istore_n (lv' := [(2, .int (zi 0)), (1, .ref q_1), (0, .ref b)]) hx hb dL_law_56 rfl hl (by decide) rfl (fun ls hl => ?_)
              refine lv_iconst (v := zi 0) hx hb dL_law_57 (by decide) ?_
              refine lv_istore_n (lv' := [(3, .int (zi 0)), (2, .int (zi 0)), (1, .ref q_1), (0, .ref b)]) hx hb dL_law_58 rfl hl (by decide) rfl (fun ls hl => ?_)
              refine lv_iconst (v := zi 0) hx hb dL_law_59 (by decide) ?_
              refine lv_istore (lv' := [(4, .int (zi 0)), (3, .int (zi 0)), (2, .int (zi 0)), (1, .ref q_1), (0, .ref b)]) hx hb dL_law_60 hl (by decide) rfl (fun ls hl => ?_)
              exact K1 _ _ _ _ _ _ _ _ (by decide) (by decide) hmf_69.1 (by have := hmf_69.2; omega) hz_67 hP hD hS (lv_sub hl [4, 3, 2, 1, 0] rfl)
            · exact absurd c_70 (by omega)

set_option maxHeartbeats 4000000 in
theorem law_all {p : Program} {l : Launch} {e : Env} {s : State} {m : MethodId} {below : List Frame} {meth : Method} {c : Code} {dC : Nat → ClassId} {dI : Nat → Nat → Nat} {cI cZ cM cT : ClassId} (hnt : l.stackTraces = false) {a0 b L hh : Nat} {xs : Nat → Int32} (hL : L ≤ 260) (C0 : lw_At p s m meth c b L xs) (hts : ∀ w ∈ zs_law, w.before #[Value.ref b] s = true) {A : Nat → Prop} (hA : ∀ q : Nat, s.heap.size ≤ q → A q) (hA2 : ∀ q : Nat, A q → s.heap.size ≤ q) (hZ : zB a0 A s s.heap) (hK : va_K (dC, dI) vwCl (zT4 cI cZ cM cT) s) (K795 : ∀ (ms : List pq_M) (gv tn tb : Int) (κ : pq_S) (k1 n1 : Nat) (H : Heap) (locs : List Loc) (ls : Array Slot), k1 ≤ 700 → n1 ≤ 16000 → pq_mo ms → 1 ≤ ms.length → pq_Sok κ → va_P (dC, dI) vwCl ([] ++ (pq_WD cI cZ cM cT hh ms gv tn tb κ)) H → va_D A ([] ++ (pq_WD cI cZ cM cT hh ms gv tn tb κ)) → va_S A s.heap H locs → lv_has ls 14 [(0, .ref b), (1, .ref hh)] → W p l e room_1 s m #[Value.ref b] below meth c H locs k1 n1 (lw_Z below #[Value.ref b] s) (F0 m 795 ls [])) {ms : List pq_M} {κ : pq_S} {k0 n0 : Nat} (hk0 : k0 ≤ 100 ∧ n0 ≤ 10000) (hms : pq_mo ms) (hlen : 1 ≤ ms.length) (hκ : pq_Sok κ) {H : Heap} {locs : List Loc} {ls : Array Slot} (hP : va_P (dC, dI) vwCl ([] ++ (pq_WD cI cZ cM cT hh ms 0 0 0 κ)) H) (hD : va_D A ([] ++ (pq_WD cI cZ cM cT hh ms 0 0 0 κ))) (hS : va_S A s.heap H locs) (hl : lv_has ls 14 [(0, .ref b), (1, .ref hh), (2, .int (zi 0)), (3, .int (zi 0)), (4, .int (zi 0))]) : W p l e room_1 s m #[Value.ref b] below meth c H locs k0 n0 (lw_Z below #[Value.ref b] s) (F0 m 62 ls []) := by
  refine pz_loopR (fun n9 k0 n0 H locs ls => ∃ (ms : List pq_M) (gv tn tb j : Int) (κ : pq_S), n9 = (50 - j).toNat ∧ (0 ≤ j ∧ j ≤ 50) ∧ ((k0 : Int) ≤ 100 + 10 * j ∧ (n0 : Int) ≤ 10000 + 100 * j) ∧ pq_mo ms ∧ 1 ≤ ms.length ∧ pq_Sok κ ∧ va_P (dC, dI) vwCl ([] ++ (pq_WD cI cZ cM cT hh ms gv tn tb κ)) H ∧ va_D A ([] ++ (pq_WD cI cZ cM cT hh ms gv tn tb κ)) ∧ va_S A s.heap H locs ∧ lv_has ls 14 [(0, .ref b), (1, .ref hh), (2, .int (zi gv)), (3, .int (zi tn)), (4, .int (zi j))]) (fun n9 k0 n0 H locs ls hI ih => ?_) _ ⟨ms, 0, 0, 0, 0, κ, rfl, by omega, by omega, hms, hlen, hκ, hP, hD, hS, hl⟩
  obtain ⟨ms, gv, tn, tb, j, κ, hn9, hj, hkn, hms, hlen, hκ, hP, hD, hS, hl⟩ := hI
  have hk0 : k0 ≤ 650 ∧ n0 ≤ 15500 := by omega
  have K := fun hj2 : j < 50 => law_752 (hh := hh) hnt hL C0 hts hA hA2 hZ hK ⟨hj.1, hj2⟩ hk0 (fun ms gv tn tb κ k1 n1 H locs ls h1 h2 h3 h4 h5 h6 h7 h8 h9 => ih _ _ _ _ _ _ ⟨ms, gv, tn, tb, j + 1, κ, rfl, by omega, by omega, h3, h4, h5, h6, h7, h8, h9⟩ (by omega))
  exact law_62 hnt hL C0 hts hA hA2 hZ hK hms hlen hj hk0 hκ hP hD hS hl (fun hj2 => law_188 hnt hL C0 hts hA hA2 hZ hK hms hlen ⟨hj.1, hj2⟩ hk0 (K hj2)) (fun hj2 => law_382 hnt hL C0 hts hA hA2 hZ hK hms hlen ⟨hj.1, hj2⟩ hk0 (K hj2)) (fun hj2 => law_405 hnt hL C0 hts hA hA2 hZ hK hms hlen ⟨hj.1, hj2⟩ hk0 (K hj2)) (fun hj2 => law_463 hnt hL C0 hts hA hA2 hZ hK hms hlen ⟨hj.1, hj2⟩ hk0 (K hj2)) (fun hj2 => law_658 hnt hL C0 hts hA hA2 hZ hK hms hlen ⟨hj.1, hj2⟩ hk0 (K hj2)) (fun hj2 => law_732 hnt hL C0 hts hA hA2 hZ hK hms hlen ⟨hj.1, hj2⟩ hk0 (K hj2)) K795
set_option maxHeartbeats 4000000 in
theorem whole_start {p : Program} {e : Env} {s : State} {m : MethodId} {below : List Frame} {meth : Method} {c : Code} (l : Launch) (hflags : l.flags = flags0) {b L : Nat} {xs : Nat → Int32} (hL : L ≤ 260) (C0 : lw_At p s m meth c b L xs) : W p l e room_1 s m #[Value.ref b] below meth c s.heap [] 0 0 (lw_Z below #[Value.ref b] s) (entryFrame m ([Value.ref b] : List Value).toArray 14) := by
  have hnt : l.stackTraces = false := by
    unfold Launch.stackTraces
    rw [hflags]
    decide
  obtain ⟨hx, hb, hr, hml, hown, hts0, hX, hbl, hlocks, hgv⟩ := id C0
  have hts : ∀ w ∈ zs_law, w.before #[Value.ref b] s = true := fun w h => hts0 w (zs_law_in w h)
  obtain ⟨A, hAe⟩ : ∃ A : Nat → Prop, A = fun q => s.heap.size ≤ q := ⟨_, rfl⟩
  have hA : ∀ q : Nat, s.heap.size ≤ q → A q := fun q h => by rw [hAe]; exact h
  have hA2 : ∀ q : Nat, A q → s.heap.size ≤ q := fun q h => by rw [hAe] at h; exact h
  obtain ⟨dC, dI, hKn⟩ := zz_known hts0
  obtain ⟨cI, cZ, cM, cT, hK⟩ := zz_K4 hts0 hKn
  have hZ : zB 0 A s s.heap := zz_start hts0 hgv (fun a h q => absurd (hA2 a q) (Nat.not_le.mpr h)) (hKn 6 _ rfl).2.1 0
  have hS : va_S A s.heap s.heap [] := va_S.rf
  have hP : va_P (dC, dI) vwCl [] s.heap := fun k q h => by simp at h
  have hD : va_D A [] := ⟨fun i j p q h => by simp at h, fun k q h => by simp at h⟩
  have hl := lv_entry ([.ref b]) (n := 14) (Nat.le_of_ble_eq_true rfl)
  rw [lg_entry_eq]
  generalize (lg_sl ([.ref b]) ++ List.replicate (14 - (lg_sl ([.ref b])).length) Slot.unset).toArray = ls at hl ⊢
  have hl : lv_has ls 14 [(0, .ref b)] := hl
  exact law_start hnt hL C0 hts hA hA2 hZ hK hP hD hS hl (fun hh ms κ k1 n1 H locs ls h1 h2 h3 h4 h5 h6 h7 h8 h9 => law_all hnt hL C0 hts hA hA2 hZ hK (fun ms gv tn tb κ k1 n1 H locs ls g1 g2 g3 g4 g5 g6 g7 g8 g9 => law_795 hnt hL C0 hts hA hA2 hZ hK ms gv tn tb κ k1 n1 H locs ls g1 g2 g3 g4 g5 g6 g7 g8 g9) ⟨h1, h2⟩ h3 h4 h5 h6 h7 h8 h9)
