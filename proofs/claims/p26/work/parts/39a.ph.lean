/-! p26: the law's own walk, in segments -/
theorem pq_ck_op0 {y : Int} (hy : 0 ≤ y) : ∀ ms : List pq_M, pq_ck y (ms.map (pq_op y)) = 0
  | [] => rfl
  | μ :: l => by
    have h := pq_ck_op0 hy l
    show (if (pq_op y μ).2.2.2.2.2.1 = y then 1 else 0) + pq_ck y (l.map (pq_op y)) = 0
    rw [h]
    unfold pq_op
    by_cases q : μ.2.2.2.2.2.1 = y
    · rw [if_pos q, if_neg (by show ¬ (-1 : Int) = y; omega)]; rfl
    · rw [if_neg q, if_neg q]; rfl
theorem pq_fl_notE {T : pq_T} (hT : pq_ok T) {q wr mv nx : Int} (h : (0 ≤ q ∧ q < 2 * pq_n T) ∧ (wr = 0 ∨ wr = 1)) : ¬ pq_E (pq_fl T q.toNat wr mv nx) q := by
  have h2 := hT.1
  have e : pq_w (pq_fl T q.toNat wr mv nx) q.toNat = wr := if_pos rfl
  unfold pq_E
  intro h3
  rw [e] at h3
  omega
theorem pq_ca_fl0 {T : pq_T} (hT : pq_ok T) {q wr mv nx : Int} (h : (0 ≤ q ∧ q < 2 * pq_n T) ∧ (wr = 0 ∨ wr = 1)) : pq_ca (pq_fl T q.toNat wr mv nx) q 0 = wr := (pq_ca_0 (pq_fl_notE hT h)).trans (if_pos rfl)
theorem pq_ca_fl2 {T : pq_T} (hT : pq_ok T) {q wr mv nx : Int} (h : (0 ≤ q ∧ q < 2 * pq_n T) ∧ (wr = 0 ∨ wr = 1)) : pq_ca (pq_fl T q.toNat wr mv nx) q 2 = nx := (pq_ca_2 (pq_fl_notE hT h)).trans (if_pos rfl)
set_option maxHeartbeats 4000000 in
set_option maxRecDepth 100000 in
theorem law_752 {p : Program} {l : Launch} {e : Env} {s : State} {m : MethodId} {below : List Frame} {meth : Method} {c : Code} {dC : Nat → ClassId} {dI : Nat → Nat → Nat} {cI cZ cM cT : ClassId} (hnt : l.stackTraces = false) {a0 b L hh : Nat} {xs : Nat → Int32} (hL : L ≤ 260) (C0 : lw_At p s m meth c b L xs) (hts : ∀ w ∈ zs_law, w.before #[Value.ref b] s = true) {A : Nat → Prop} (hA : ∀ q : Nat, s.heap.size ≤ q → A q) (hA2 : ∀ q : Nat, A q → s.heap.size ≤ q) (hZ : zB a0 A s s.heap) (hK : va_K (dC, dI) vwCl (zT4 cI cZ cM cT) s) {j : Int} (hj : 0 ≤ j ∧ j < 50) {k0 n0 : Nat} (hk0 : k0 ≤ 650 ∧ n0 ≤ 15500) (K62 : ∀ (ms : List pq_M) (gv tn tb : Int) (κ : pq_S) (k1 n1 : Nat) (H : Heap) (locs : List Loc) (ls : Array Slot), k1 ≤ k0 + 10 → n1 ≤ n0 + 100 → pq_mo ms → 1 ≤ ms.length → pq_Sok κ → va_P (dC, dI) vwCl ([] ++ (pq_WD cI cZ cM cT hh ms gv tn tb κ)) H → va_D A ([] ++ (pq_WD cI cZ cM cT hh ms gv tn tb κ)) → va_S A s.heap H locs → lv_has ls 14 [(0, .ref b), (1, .ref hh), (2, .int (zi gv)), (3, .int (zi tn)), (4, .int (zi (j + 1)))] → W p l e room_1 s m #[Value.ref b] below meth c H locs k1 n1 (lw_Z below #[Value.ref b] s) (F0 m 62 ls [])) : ∀ (ms : List pq_M) (gv tn tb : Int) (κ : pq_S) (k1 n1 : Nat) (H : Heap) (locs : List Loc) (ls : Array Slot), k1 ≤ k0 + 6 → n1 ≤ n0 + 40 → pq_mo ms → 1 ≤ ms.length → pq_Sok κ → va_P (dC, dI) vwCl ([] ++ (pq_WD cI cZ cM cT hh ms gv tn tb κ)) H → va_D A ([] ++ (pq_WD cI cZ cM cT hh ms gv tn tb κ)) → va_S A s.heap H locs → lv_has ls 14 [(0, .ref b), (1, .ref hh), (2, .int (zi gv)), (3, .int (zi tn)), (4, .int (zi j))] → W p l e room_1 s m #[Value.ref b] below meth c H locs k1 n1 (lw_Z below #[Value.ref b] s) (F0 m 752 ls []) := by
  intro ms gv tn tb κ k1 n1 H locs ls hk1_ hn1_ hms hlen hκ hP hD hS hl
  obtain ⟨hx, hb, hr, hml, hown, -, hX0, hbl, hlocks, hgv⟩ := id C0
  have hown : s.vm.findClass RL = some m.cls := hown
  have hX : zX A b L xs s s.heap := ⟨hX0, fun h => absurd (hA2 b h) (Nat.not_le.mpr hbl), hbl⟩
  have hR1 : 600000 ≤ room_1.cells := Nat.le_of_ble_eq_true rfl
  have hR2 : 7300000 ≤ room_1.slots := Nat.le_of_ble_eq_true rfl
  have hms12 := hms.1
  refine lv_aload_n hx hb dL_law_752 rfl (lv_at hl 1 rfl) ?_
  refine lv_bipush (v := zi 7) hx hb dL_law_753 (by decide) ?_
  have hPc := hP.part (cx := []) [] rfl
  have hDc := hD.part (cx := []) [] (by decide) rfl
  have hFc := va_freeP (cx := []) hD hS hA [] rfl
  refine va_calli (va_runV (As := [.int (zi 7)]) (rest := []) ⟨hx, hb, hml, hown, hts⟩ (c_X7_many l dC dI cI cZ cM cT H.size hh ms gv tn tb κ 7 (by first | assumption | omega | rfl) hκ (by first | assumption | omega | rfl)) (cwV 1 hts (zz_gV (goodIn_of _ (by decide +kernel)) zg_c_X7_many) rfl rfl rfl (by decide +kernel) ⟨(by first | exact Nat.le_of_ble_eq_true rfl | omega), (by first | exact Nat.le_of_ble_eq_true rfl | omega)⟩) ⟨fun a U g mk q => by obtain ⟨q0, q1, qP, qK, qD⟩ := q; exact ⟨q0, q1, qP, va_K.moved (u := U) (U := U.calling g mk a) (Vm.Alike.refl U.vm) qK, qD⟩, va_recv hK hPc (ci := 6) (q0 := 0) rfl rfl, fun U hU hW => ⟨rfl, by rw [hU], by rw [hU]; exact hPc, va_K.moved hW.alike hK, hDc.weaken (fun _ _ _ _ => trivial)⟩⟩ rfl rfl hl.1 rfl (lv_room (by first | exact Nat.le_of_ble_eq_true rfl | omega)) dL_law_755 ⟨(by first | exact Nat.le_of_ble_eq_true rfl | omega), (by first | exact Nat.le_of_ble_eq_true rfl | omega)⟩) hS (fun q _ h => hFc q h) hFc (fun r_1 u t H1 locs ht hvm hw hB hz1 hk1 hS => ?_)
  obtain ⟨hP1, hK1, hD1⟩ := hB
  rw [ht] at hP1
  obtain ⟨hP, hD⟩ := va_joinP (wr := []) (rx := []) (pl1 := (pq_WD cI cZ cM cT hh ms gv tn tb κ)) hP hD [] [] rfl rfl (by decide) (by decide) hk1 hFc hP1 hD1
  generalize H1 = H at hP hS ⊢
  have hP : va_P (dC, dI) vwCl ([] ++ (pq_WD cI cZ cM cT hh ms gv tn tb κ)) H := hP
  have hD : va_D A ([] ++ (pq_WD cI cZ cM cT hh ms gv tn tb κ)) := hD
  refine W.widen (k := k1) (n := n1) (by first | exact Nat.le_of_ble_eq_true rfl | omega) (by first | exact Nat.le_of_ble_eq_true rfl | omega) ?_
  obtain rfl : r_1 = zi (pq_ma ms gv tn tb (7 : Int)) := hw
  refine pz_top (y := zi gv) (congrArg zi (rfl)) ?_
  refine lv_iload_n hx hb dL_law_758 rfl (lv_at hl 2 rfl) ?_
  refine lv_icmp_ne (tgt := 787) hx hb dL_law_759 (by decide) (fun h => absurd (congrArg zi (show gv = gv from rfl)) h) (fun _ => ?_)
  refine lv_aload_n hx hb dL_law_762 rfl (lv_at hl 1 rfl) ?_
  refine lv_bipush (v := zi 8) hx hb dL_law_763 (by decide) ?_
  have hPc := hP.part (cx := []) [] rfl
  have hDc := hD.part (cx := []) [] (by decide) rfl
  have hFc := va_freeP (cx := []) hD hS hA [] rfl
  refine va_calli (va_runV (As := [.int (zi 8)]) (rest := []) ⟨hx, hb, hml, hown, hts⟩ (c_X7_many l dC dI cI cZ cM cT H.size hh ms gv tn tb κ 8 (by first | assumption | omega | rfl) hκ (by first | assumption | omega | rfl)) (cwV 1 hts (zz_gV (goodIn_of _ (by decide +kernel)) zg_c_X7_many) rfl rfl rfl (by decide +kernel) ⟨(by first | exact Nat.le_of_ble_eq_true rfl | omega), (by first | exact Nat.le_of_ble_eq_true rfl | omega)⟩) ⟨fun a U g mk q => by obtain ⟨q0, q1, qP, qK, qD⟩ := q; exact ⟨q0, q1, qP, va_K.moved (u := U) (U := U.calling g mk a) (Vm.Alike.refl U.vm) qK, qD⟩, va_recv hK hPc (ci := 6) (q0 := 0) rfl rfl, fun U hU hW => ⟨rfl, by rw [hU], by rw [hU]; exact hPc, va_K.moved hW.alike hK, hDc.weaken (fun _ _ _ _ => trivial)⟩⟩ rfl rfl hl.1 rfl (lv_room (by first | exact Nat.le_of_ble_eq_true rfl | omega)) dL_law_765 ⟨(by first | exact Nat.le_of_ble_eq_true rfl | omega), (by first | exact Nat.le_of_ble_eq_true rfl | omega)⟩) hS (fun q _ h => hFc q h) hFc (fun r_2 u t H1 locs ht hvm hw hB hz1 hk1 hS => ?_)
  obtain ⟨hP1, hK1, hD1⟩ := hB
  rw [ht] at hP1
  obtain ⟨hP, hD⟩ := va_joinP (wr := []) (rx := []) (pl1 := (pq_WD cI cZ cM cT hh ms gv tn tb κ)) hP hD [] [] rfl rfl (by decide) (by decide) hk1 hFc hP1 hD1
  generalize H1 = H at hP hS ⊢
  have hP : va_P (dC, dI) vwCl ([] ++ (pq_WD cI cZ cM cT hh ms gv tn tb κ)) H := hP
  have hD : va_D A ([] ++ (pq_WD cI cZ cM cT hh ms gv tn tb κ)) := hD
  refine W.widen (k := k1) (n := n1) (by first | exact Nat.le_of_ble_eq_true rfl | omega) (by first | exact Nat.le_of_ble_eq_true rfl | omega) ?_
  obtain rfl : r_2 = zi (pq_ma ms gv tn tb (8 : Int)) := hw
  refine pz_top (y := zi tn) (congrArg zi (rfl)) ?_
  refine lv_iload_n hx hb dL_law_768 rfl (lv_at hl 3 rfl) ?_
  refine lv_icmp_ne (tgt := 787) hx hb dL_law_769 (by decide) (fun h => absurd (congrArg zi (show tn = tn from rfl)) h) (fun _ => ?_)
  refine lv_iload hx hb dL_law_772 (lv_at hl 4 rfl) ?_
  refine lv_iconst (v := zi 5) hx hb dL_law_774 (by decide) ?_
  refine pz_irem hx hb (by omega) dL_law_775 ?_
  refine lv_iconst (v := zi 4) hx hb dL_law_776 (by decide) ?_
  refine pz_icmp_ne (tgt := 789) hx hb (by omega) dL_law_777 (by decide) (fun c_3 => ?_) (fun c_3 => ?_)
  · refine pz_iinc (lv' := [(4, .int (zi (j + 1))), (0, .ref b), (1, .ref hh), (2, .int (zi gv)), (3, .int (zi tn))]) hx hb dL_law_789 hl (k := 4) rfl (by decide) rfl (fun ls hl => ?_)
    refine lv_goto (tgt := 62) hx hb dL_law_792 (by decide) ?_
    exact K62 _ _ _ _ _ _ _ _ _ _ (by omega) (by omega) hms hlen hκ hP hD hS (lv_sub hl [1, 2, 3, 4, 0] rfl)
  · refine lv_aload_n hx hb dL_law_780 rfl (lv_at hl 1 rfl) ?_
    have hPc := hP.part (cx := []) [] rfl
    have hDc := hD.part (cx := []) [] (by decide) rfl
    have hFc := va_freeP (cx := []) hD hS hA [] rfl
    refine va_calli (va_runS (As := [.ref hh]) (rest := []) ⟨hx, hb, hml, hown, hts⟩ (c_L_isSo l dC dI cI cZ cM cT H.size hh ms gv tn tb κ (by first | assumption | omega | rfl) hκ) (va_cwS 1 hts (zz_gS (goodIn_of _ (by decide +kernel)) zg_c_L_isSo) rfl rfl rfl (by decide +kernel) ⟨(by first | exact Nat.le_of_ble_eq_true rfl | omega), (by first | exact Nat.le_of_ble_eq_true rfl | omega)⟩) ⟨fun a U g mk q => by obtain ⟨q0, q1, qP, qK, qD⟩ := q; exact ⟨q0, q1, qP, va_K.moved (u := U) (U := U.calling g mk a) (Vm.Alike.refl U.vm) qK, qD⟩, fun U hU hW => ⟨rfl, by rw [hU], by rw [hU]; exact hPc, va_K.moved hW.alike hK, hDc.weaken (fun _ _ _ _ => trivial)⟩⟩ rfl rfl hl.1 rfl (lv_room (by first | exact Nat.le_of_ble_eq_true rfl | omega)) dL_law_781 ⟨(by first | exact Nat.le_of_ble_eq_true rfl | omega), (by first | exact Nat.le_of_ble_eq_true rfl | omega)⟩) hS (fun q _ h => hFc q h) hFc (fun r_4 u t H1 locs ht hvm hw hB hz1 hk1 hS => ?_)
    obtain ⟨κ1_5, hz_6, hP1, hK1, hD1⟩ := hB
    rw [ht] at hP1
    obtain ⟨hP, hD⟩ := va_joinP (wr := []) (rx := []) (pl1 := (pq_WD cI cZ cM cT hh ms gv tn tb κ1_5)) hP hD [] [] rfl rfl (by decide) (by decide) hk1 hFc hP1 hD1
    generalize H1 = H at hP hS ⊢
    have hP : va_P (dC, dI) vwCl ([] ++ (pq_WD cI cZ cM cT hh ms gv tn tb κ1_5)) H := hP
    have hD : va_D A ([] ++ (pq_WD cI cZ cM cT hh ms gv tn tb κ1_5)) := hD
    refine W.widen (k := (k1 + 1)) (n := (n1 + 5)) (by first | exact Nat.le_of_ble_eq_true rfl | omega) (by first | exact Nat.le_of_ble_eq_true rfl | omega) ?_
    obtain rfl : r_4 = zi 1 := hw
    refine pz_if_ne (tgt := 789) hx hb (by omega) dL_law_784 (by decide) (fun c_7 => ?_) (fun c_7 => ?_)
    · refine pz_iinc (lv' := [(4, .int (zi (j + 1))), (0, .ref b), (1, .ref hh), (2, .int (zi gv)), (3, .int (zi tn))]) hx hb dL_law_789 hl (k := 4) rfl (by decide) rfl (fun ls hl => ?_)
      refine lv_goto (tgt := 62) hx hb dL_law_792 (by decide) ?_
      exact K62 _ _ _ _ _ _ _ _ _ _ (by omega) (by omega) hms hlen hz_6 hP hD hS (lv_sub hl [1, 2, 3, 4, 0] rfl)
    · exact absurd c_7 (by omega)

set_option maxHeartbeats 4000000 in
set_option maxRecDepth 100000 in
theorem law_795 {p : Program} {l : Launch} {e : Env} {s : State} {m : MethodId} {below : List Frame} {meth : Method} {c : Code} {dC : Nat → ClassId} {dI : Nat → Nat → Nat} {cI cZ cM cT : ClassId} (hnt : l.stackTraces = false) {a0 b L hh : Nat} {xs : Nat → Int32} (hL : L ≤ 260) (C0 : lw_At p s m meth c b L xs) (hts : ∀ w ∈ zs_law, w.before #[Value.ref b] s = true) {A : Nat → Prop} (hA : ∀ q : Nat, s.heap.size ≤ q → A q) (hA2 : ∀ q : Nat, A q → s.heap.size ≤ q) (hZ : zB a0 A s s.heap) (hK : va_K (dC, dI) vwCl (zT4 cI cZ cM cT) s)  : ∀ (ms : List pq_M) (gv tn tb : Int) (κ : pq_S) (k1 n1 : Nat) (H : Heap) (locs : List Loc) (ls : Array Slot), k1 ≤ 700 → n1 ≤ 16000 → pq_mo ms → 1 ≤ ms.length → pq_Sok κ → va_P (dC, dI) vwCl ([] ++ (pq_WD cI cZ cM cT hh ms gv tn tb κ)) H → va_D A ([] ++ (pq_WD cI cZ cM cT hh ms gv tn tb κ)) → va_S A s.heap H locs → lv_has ls 14 [(0, .ref b), (1, .ref hh)] → W p l e room_1 s m #[Value.ref b] below meth c H locs k1 n1 (lw_Z below #[Value.ref b] s) (F0 m 795 ls []) := by
  intro ms gv tn tb κ k1 n1 H locs ls hk1_ hn1_ hms hlen hκ hP hD hS hl
  obtain ⟨hx, hb, hr, hml, hown, -, hX0, hbl, hlocks, hgv⟩ := id C0
  have hown : s.vm.findClass RL = some m.cls := hown
  have hX : zX A b L xs s s.heap := ⟨hX0, fun h => absurd (hA2 b h) (Nat.not_le.mpr hbl), hbl⟩
  have hR1 : 600000 ≤ room_1.cells := Nat.le_of_ble_eq_true rfl
  have hR2 : 7300000 ≤ room_1.slots := Nat.le_of_ble_eq_true rfl
  have hms12 := hms.1
  refine lv_aload_n hx hb dL_law_795 rfl (lv_at hl 1 rfl) ?_
  have hPc := hP.part (cx := []) [] rfl
  have hDc := hD.part (cx := []) [] (by decide) rfl
  have hFc := va_freeP (cx := []) hD hS hA [] rfl
  refine va_calll (va_runV (As := []) (rest := []) ⟨hx, hb, hml, hown, hts⟩ (c_X7_digest l dC dI cI cZ cM cT H.size hh ms gv tn tb κ (by first | assumption | omega | rfl) hκ) (cwV 0 hts (zz_gV (goodIn_of _ (by decide +kernel)) zg_c_X7_digest) rfl rfl rfl (by decide +kernel) ⟨(by first | exact Nat.le_of_ble_eq_true rfl | omega), (by first | exact Nat.le_of_ble_eq_true rfl | omega)⟩) ⟨fun a U g mk q => by obtain ⟨q0, q1, qP, qK, qD⟩ := q; exact ⟨q0, q1, qP, va_K.moved (u := U) (U := U.calling g mk a) (Vm.Alike.refl U.vm) qK, qD⟩, va_recv hK hPc (ci := 6) (q0 := 0) rfl rfl, fun U hU hW => ⟨rfl, by rw [hU], by rw [hU]; exact hPc, va_K.moved hW.alike hK, hDc.weaken (fun _ _ _ _ => trivial)⟩⟩ rfl rfl hl.1 rfl (lv_room (by first | exact Nat.le_of_ble_eq_true rfl | omega)) dL_law_796 ⟨(by first | exact Nat.le_of_ble_eq_true rfl | omega), (by first | exact Nat.le_of_ble_eq_true rfl | omega)⟩) hS (fun q _ h => hFc q h) hFc (fun r_1 u t H1 locs ht hvm hw hB hz1 hk1 hS => ?_)
  obtain ⟨κ1_2, hz_3, hP1, hK1, hD1⟩ := hB
  rw [ht] at hP1
  obtain ⟨hP, hD⟩ := va_joinP (wr := []) (rx := []) (pl1 := (pq_WD cI cZ cM cT hh ms gv tn tb κ1_2)) hP hD [] [] rfl rfl (by decide) (by decide) hk1 hFc hP1 hD1
  generalize H1 = H at hP hS ⊢
  have hP : va_P (dC, dI) vwCl ([] ++ (pq_WD cI cZ cM cT hh ms gv tn tb κ1_2)) H := hP
  have hD : va_D A ([] ++ (pq_WD cI cZ cM cT hh ms gv tn tb κ1_2)) := hD
  refine W.widen (k := k1) (n := n1) (by first | exact Nat.le_of_ble_eq_true rfl | omega) (by first | exact Nat.le_of_ble_eq_true rfl | omega) ?_
  obtain rfl : r_1 = pq_dg ms gv tn tb := hw
  refine lv_lstore (lv' := [(4, .long (pq_dg ms gv tn tb)), (0, .ref b), (1, .ref hh)]) hx hb dL_law_799 hl (by decide) rfl (fun ls hl => ?_)
  refine lv_aload_n hx hb dL_law_801 rfl (lv_at hl 2 rfl) ?_
  have hPc := hP.part (cx := []) [] rfl
  have hDc := hD.part (cx := []) [] (by decide) rfl
  have hFc := va_freeP (cx := []) hD hS hA [] rfl
  refine va_calli (va_runS (As := [.ref hh]) (rest := []) ⟨hx, hb, hml, hown, hts⟩ (c_L_isSo l dC dI cI cZ cM cT H.size hh ms gv tn tb κ1_2 (by first | assumption | omega | rfl) hz_3) (va_cwS 1 hts (zz_gS (goodIn_of _ (by decide +kernel)) zg_c_L_isSo) rfl rfl rfl (by decide +kernel) ⟨(by first | exact Nat.le_of_ble_eq_true rfl | omega), (by first | exact Nat.le_of_ble_eq_true rfl | omega)⟩) ⟨fun a U g mk q => by obtain ⟨q0, q1, qP, qK, qD⟩ := q; exact ⟨q0, q1, qP, va_K.moved (u := U) (U := U.calling g mk a) (Vm.Alike.refl U.vm) qK, qD⟩, fun U hU hW => ⟨rfl, by rw [hU], by rw [hU]; exact hPc, va_K.moved hW.alike hK, hDc.weaken (fun _ _ _ _ => trivial)⟩⟩ rfl rfl hl.1 rfl (lv_room (by first | exact Nat.le_of_ble_eq_true rfl | omega)) dL_law_802 ⟨(by first | exact Nat.le_of_ble_eq_true rfl | omega), (by first | exact Nat.le_of_ble_eq_true rfl | omega)⟩) hS (fun q _ h => hFc q h) hFc (fun r_4 u t H1 locs ht hvm hw hB hz1 hk1 hS => ?_)
  obtain ⟨κ1_5, hz_6, hP1, hK1, hD1⟩ := hB
  rw [ht] at hP1
  obtain ⟨hP, hD⟩ := va_joinP (wr := []) (rx := []) (pl1 := (pq_WD cI cZ cM cT hh ms gv tn tb κ1_5)) hP hD [] [] rfl rfl (by decide) (by decide) hk1 hFc hP1 hD1
  generalize H1 = H at hP hS ⊢
  have hP : va_P (dC, dI) vwCl ([] ++ (pq_WD cI cZ cM cT hh ms gv tn tb κ1_5)) H := hP
  have hD : va_D A ([] ++ (pq_WD cI cZ cM cT hh ms gv tn tb κ1_5)) := hD
  refine W.widen (k := (k1 + 1)) (n := (n1 + 5)) (by first | exact Nat.le_of_ble_eq_true rfl | omega) (by first | exact Nat.le_of_ble_eq_true rfl | omega) ?_
  obtain rfl : r_4 = zi 1 := hw
  refine pz_if_eq (tgt := 829) hx hb (by omega) dL_law_805 (by decide) (fun c_7 => ?_) (fun c_7 => ?_)
  · exact absurd c_7 (by omega)
  · refine lv_aload_n hx hb dL_law_808 rfl (lv_at hl 2 rfl) ?_
    have hPc := hP.part (cx := []) [] rfl
    have hDc := hD.part (cx := []) [] (by decide) rfl
    have hFc := va_freeP (cx := []) hD hS hA [] rfl
    refine va_calll (va_runV (As := []) (rest := []) ⟨hx, hb, hml, hown, hts⟩ (c_X7_digest l dC dI cI cZ cM cT H.size hh ms gv tn tb κ1_5 (by first | assumption | omega | rfl) hz_6) (cwV 0 hts (zz_gV (goodIn_of _ (by decide +kernel)) zg_c_X7_digest) rfl rfl rfl (by decide +kernel) ⟨(by first | exact Nat.le_of_ble_eq_true rfl | omega), (by first | exact Nat.le_of_ble_eq_true rfl | omega)⟩) ⟨fun a U g mk q => by obtain ⟨q0, q1, qP, qK, qD⟩ := q; exact ⟨q0, q1, qP, va_K.moved (u := U) (U := U.calling g mk a) (Vm.Alike.refl U.vm) qK, qD⟩, va_recv hK hPc (ci := 6) (q0 := 0) rfl rfl, fun U hU hW => ⟨rfl, by rw [hU], by rw [hU]; exact hPc, va_K.moved hW.alike hK, hDc.weaken (fun _ _ _ _ => trivial)⟩⟩ rfl rfl hl.1 rfl (lv_room (by first | exact Nat.le_of_ble_eq_true rfl | omega)) dL_law_809 ⟨(by first | exact Nat.le_of_ble_eq_true rfl | omega), (by first | exact Nat.le_of_ble_eq_true rfl | omega)⟩) hS (fun q _ h => hFc q h) hFc (fun r_8 u t H1 locs ht hvm hw hB hz1 hk1 hS => ?_)
    obtain ⟨κ1_9, hz_10, hP1, hK1, hD1⟩ := hB
    rw [ht] at hP1
    obtain ⟨hP, hD⟩ := va_joinP (wr := []) (rx := []) (pl1 := (pq_WD cI cZ cM cT hh ms gv tn tb κ1_9)) hP hD [] [] rfl rfl (by decide) (by decide) hk1 hFc hP1 hD1
    generalize H1 = H at hP hS ⊢
    have hP : va_P (dC, dI) vwCl ([] ++ (pq_WD cI cZ cM cT hh ms gv tn tb κ1_9)) H := hP
    have hD : va_D A ([] ++ (pq_WD cI cZ cM cT hh ms gv tn tb κ1_9)) := hD
    refine W.widen (k := (k1 + 1)) (n := (n1 + 5)) (by first | exact Nat.le_of_ble_eq_true rfl | omega) (by first | exact Nat.le_of_ble_eq_true rfl | omega) ?_
    obtain rfl : r_8 = pq_dg ms gv tn tb := hw
    refine lv_lload hx hb dL_law_812 (lv_at hl 0 rfl) ?_
    refine W.lcmp hx hb dL_law_814 ?_
    refine lv_topi (fun x_11 ex_11 => ?_)
    obtain rfl : x_11 = zi 0 := (ex_11.trans ((lg_cmp_eq _ _).mpr rfl)).trans zi_zero.symm
    refine pz_if_ne (tgt := 829) hx hb (by omega) dL_law_815 (by decide) (fun c_12 => ?_) (fun c_12 => ?_)
    · exact absurd c_12 (by omega)
    · refine lv_aload_n hx hb dL_law_818 rfl (lv_at hl 2 rfl) ?_
      have hPc := hP.part (cx := []) [] rfl
      have hDc := hD.part (cx := []) [] (by decide) rfl
      have hFc := va_freeP (cx := []) hD hS hA [] rfl
      refine va_calli (va_runS (As := [.ref hh]) (rest := []) ⟨hx, hb, hml, hown, hts⟩ (c_L_areStanding l dC dI cI cZ cM cT H.size hh ms gv tn tb κ1_9 (by first | assumption | omega | rfl) hz_10) (va_cwS 1 hts (zz_gS (goodIn_of _ (by decide +kernel)) zg_c_L_areStanding) rfl rfl rfl (by decide +kernel) ⟨(by first | exact Nat.le_of_ble_eq_true rfl | omega), (by first | exact Nat.le_of_ble_eq_true rfl | omega)⟩) ⟨fun a U g mk q => by obtain ⟨q0, q1, qP, qK, qD⟩ := q; exact ⟨q0, q1, qP, va_K.moved (u := U) (U := U.calling g mk a) (Vm.Alike.refl U.vm) qK, qD⟩, fun U hU hW => ⟨rfl, by rw [hU], by rw [hU]; exact hPc, va_K.moved hW.alike hK, hDc.weaken (fun _ _ _ _ => trivial)⟩⟩ rfl rfl hl.1 rfl (lv_room (by first | exact Nat.le_of_ble_eq_true rfl | omega)) dL_law_819 ⟨(by first | exact Nat.le_of_ble_eq_true rfl | omega), (by first | exact Nat.le_of_ble_eq_true rfl | omega)⟩) hS (fun q _ h => hFc q h) hFc (fun r_13 u t H1 locs ht hvm hw hB hz1 hk1 hS => ?_)
      obtain ⟨κ1_14, ms1_15, gv1_16, tn1_17, tb1_18, hz_19, hP1, hK1, hD1⟩ := hB
      rw [ht] at hP1
      obtain ⟨hP, hD⟩ := va_joinP (wr := []) (rx := []) (pl1 := (pq_WD cI cZ cM cT hh ms1_15 gv1_16 tn1_17 tb1_18 κ1_14)) hP hD [] [] rfl rfl (by decide) (by decide) hk1 hFc hP1 hD1
      generalize H1 = H at hP hS ⊢
      have hP : va_P (dC, dI) vwCl ([] ++ (pq_WD cI cZ cM cT hh ms1_15 gv1_16 tn1_17 tb1_18 κ1_14)) H := hP
      have hD : va_D A ([] ++ (pq_WD cI cZ cM cT hh ms1_15 gv1_16 tn1_17 tb1_18 κ1_14)) := hD
      refine W.widen (k := (k1 + 4)) (n := (n1 + 41)) (by first | exact Nat.le_of_ble_eq_true rfl | omega) (by first | exact Nat.le_of_ble_eq_true rfl | omega) ?_
      obtain rfl : r_13 = zi 1 := hw
      refine pz_if_eq (tgt := 829) hx hb (by omega) dL_law_822 (by decide) (fun c_20 => ?_) (fun c_20 => ?_)
      · exact absurd c_20 (by omega)
      · refine lv_iconst (v := zi 1) hx hb dL_law_825 (by decide) ?_
        refine lv_goto (tgt := 830) hx hb dL_law_826 (by decide) ?_
        refine va_forget (fun q hq => hA2 _ (hS.2.2 q hq)) ?_
        refine W.widen (k := room_1.cells) (n := room_1.slots) (by first | exact Nat.le_of_ble_eq_true rfl | omega) (by first | exact Nat.le_of_ble_eq_true rfl | omega) ?_
        exact lw_ret0 hx hb hr hlocks dL_law_830

set_option maxHeartbeats 4000000 in
set_option maxRecDepth 100000 in
theorem law_732 {p : Program} {l : Launch} {e : Env} {s : State} {m : MethodId} {below : List Frame} {meth : Method} {c : Code} {dC : Nat → ClassId} {dI : Nat → Nat → Nat} {cI cZ cM cT : ClassId} (hnt : l.stackTraces = false) {a0 b L hh : Nat} {xs : Nat → Int32} (hL : L ≤ 260) (C0 : lw_At p s m meth c b L xs) (hts : ∀ w ∈ zs_law, w.before #[Value.ref b] s = true) {A : Nat → Prop} (hA : ∀ q : Nat, s.heap.size ≤ q → A q) (hA2 : ∀ q : Nat, A q → s.heap.size ≤ q) (hZ : zB a0 A s s.heap) (hK : va_K (dC, dI) vwCl (zT4 cI cZ cM cT) s) {ms : List pq_M} {gv tn tb : Int} (hms : pq_mo ms) (hlen : 1 ≤ ms.length) {j : Int} (hj : 0 ≤ j ∧ j < 50) {k0 n0 : Nat} (hk0 : k0 ≤ 650 ∧ n0 ≤ 15500) (K752 : ∀ (ms : List pq_M) (gv tn tb : Int) (κ : pq_S) (k1 n1 : Nat) (H : Heap) (locs : List Loc) (ls : Array Slot), k1 ≤ k0 + 6 → n1 ≤ n0 + 40 → pq_mo ms → 1 ≤ ms.length → pq_Sok κ → va_P (dC, dI) vwCl ([] ++ (pq_WD cI cZ cM cT hh ms gv tn tb κ)) H → va_D A ([] ++ (pq_WD cI cZ cM cT hh ms gv tn tb κ)) → va_S A s.heap H locs → lv_has ls 14 [(0, .ref b), (1, .ref hh), (2, .int (zi gv)), (3, .int (zi tn)), (4, .int (zi j))] → W p l e room_1 s m #[Value.ref b] below meth c H locs k1 n1 (lw_Z below #[Value.ref b] s) (F0 m 752 ls [])) : ∀ (x9 : Int32) (w : Int) (am aw av ax : Nat) (T : pq_T) (kk ka kb : Int) (κ : pq_S) (H : Heap) (locs : List Loc) (ls : Array Slot), (0 ≤ w ∧ w < (ms.length : Int)) → ms[w.toNat]? = some (am, aw, av, ax, T, kk, ka, kb) → pq_Sok κ → va_P (dC, dI) vwCl ([] ++ (pq_WD cI cZ cM cT hh ms gv tn tb κ)) H → va_D A ([] ++ (pq_WD cI cZ cM cT hh ms gv tn tb κ)) → va_S A s.heap H locs → lv_has ls 14 [(0, .ref b), (1, .ref hh), (2, .int (zi gv)), (3, .int (zi tn)), (4, .int (zi j)), (5, .int x9), (6, .int (zi (ms.length : Int))), (7, .int (zi w)), (8, .int (zi kk)), (9, .int (zi tb))] → W p l e room_1 s m #[Value.ref b] below meth c H locs k0 n0 (lw_Z below #[Value.ref b] s) (F0 m 732 ls []) := by
  intro x9 w am aw av ax T kk ka kb κ H locs ls hw9 hμ hκ hP hD hS hl
  obtain ⟨hx, hb, hr, hml, hown, -, hX0, hbl, hlocks, hgv⟩ := id C0
  have hown : s.vm.findClass RL = some m.cls := hown
  have hX : zX A b L xs s s.heap := ⟨hX0, fun h => absurd (hA2 b h) (Nat.not_le.mpr hbl), hbl⟩
  have hR1 : 600000 ≤ room_1.cells := Nat.le_of_ble_eq_true rfl
  have hR2 : 7300000 ≤ room_1.slots := Nat.le_of_ble_eq_true rfl
  have hms12 := hms.1
  refine lv_aload_n hx hb dL_law_732 rfl (lv_at hl 1 rfl) ?_
  refine lv_iload hx hb dL_law_733 (lv_at hl 7 rfl) ?_
  refine lv_iload hx hb dL_law_735 (lv_at hl 5 rfl) ?_
  refine lv_iconst (v := zi 3) hx hb dL_law_737 (by decide) ?_
  refine lv_ishr hx hb dL_law_738 ?_
  refine lv_bipush (v := zi 120) hx hb dL_law_739 (by decide) ?_
  have hPc := hP.sub (ws' := []) [] rfl
  have hDc := hD.sub (ws' := []) [] (by decide) rfl
  have hFc := va_free (wc := []) hD hS hA [] rfl
  refine va_calli (va_runS (As := [.int (x9 >>> ((zi 3) &&& 31)), .int (zi 120)]) (rest := [.int (zi w), .ref hh]) ⟨hx, hb, hml, hown, hts⟩ (c_L_below l dC dI cI cZ cM cT H.size (x9 >>> ((zi 3) &&& 31)) 120 (by first | assumption | omega | rfl)) (va_cwS 2 hts (zz_gS (goodIn_of _ (by decide +kernel)) zg_c_L_below) rfl rfl rfl (by decide +kernel) ⟨(by first | exact Nat.le_of_ble_eq_true rfl | omega), (by first | exact Nat.le_of_ble_eq_true rfl | omega)⟩) ⟨fun a U g mk q => by obtain ⟨q0, q1, qP, qK, qD⟩ := q; exact ⟨q0, q1, qP, va_K.moved (u := U) (U := U.calling g mk a) (Vm.Alike.refl U.vm) qK, qD⟩, fun U hU hW => ⟨rfl, by rw [hU], by rw [hU]; exact hPc, va_K.moved hW.alike hK, hDc.weaken (fun _ _ _ _ => trivial)⟩⟩ rfl rfl hl.1 rfl (lv_room (by first | exact Nat.le_of_ble_eq_true rfl | omega)) dL_law_741 ⟨(by first | exact Nat.le_of_ble_eq_true rfl | omega), (by first | exact Nat.le_of_ble_eq_true rfl | omega)⟩) hS (fun q _ h => hFc q h) hFc (fun r_1 u t H1 locs ht hvm hw hB hz1 hk1 hS => ?_)
  obtain ⟨hP1, hK1, hD1⟩ := hB
  rw [ht] at hP1
  obtain ⟨hP, hD⟩ := va_joinQ (wr := []) (w1 := []) (pl := (pq_WD cI cZ cM cT hh ms gv tn tb κ)) hP hD [] [] rfl rfl (by decide) (by decide) hk1 hFc hP1 hD1
  generalize H1 = H at hP hS ⊢
  have hP : va_P (dC, dI) vwCl ([] ++ (pq_WD cI cZ cM cT hh ms gv tn tb κ)) H := hP
  have hD : va_D A ([] ++ (pq_WD cI cZ cM cT hh ms gv tn tb κ)) := hD
  refine W.widen (k := k0) (n := n0) (by first | exact Nat.le_of_ble_eq_true rfl | omega) (by first | exact Nat.le_of_ble_eq_true rfl | omega) ?_
  obtain ⟨q_2, rfl, hq_3⟩ := hw
  have hPc := hP.part (cx := []) [] rfl
  have hDc := hD.part (cx := []) [] (by decide) rfl
  have hFc := va_freeP (cx := []) hD hS hA [] rfl
  refine va_calli (va_runS (As := [.ref hh, .int (zi w), .int (zi q_2)]) (rest := []) ⟨hx, hb, hml, hown, hts⟩ (c_L_isStep l dC dI cI cZ cM cT H.size hh ms gv tn tb κ w am aw av ax T kk ka kb q_2 (by first | assumption | omega | rfl) hκ (by first | assumption | omega | rfl) hμ (by first | assumption | omega | rfl)) (va_cwS 3 hts (zz_gS (goodIn_of _ (by decide +kernel)) zg_c_L_isStep) rfl rfl rfl (by decide +kernel) ⟨(by first | exact Nat.le_of_ble_eq_true rfl | omega), (by first | exact Nat.le_of_ble_eq_true rfl | omega)⟩) ⟨fun a U g mk q => by obtain ⟨q0, q1, qP, qK, qD⟩ := q; exact ⟨q0, q1, qP, va_K.moved (u := U) (U := U.calling g mk a) (Vm.Alike.refl U.vm) qK, qD⟩, fun U hU hW => ⟨rfl, by rw [hU], by rw [hU]; exact hPc, va_K.moved hW.alike hK, hDc.weaken (fun _ _ _ _ => trivial)⟩⟩ rfl rfl hl.1 rfl (lv_room (by first | exact Nat.le_of_ble_eq_true rfl | omega)) dL_law_744 ⟨(by first | exact Nat.le_of_ble_eq_true rfl | omega), (by first | exact Nat.le_of_ble_eq_true rfl | omega)⟩) hS (fun q _ h => hFc q h) hFc (fun r_4 u t H1 locs ht hvm hw hB hz1 hk1 hS => ?_)
  obtain ⟨κ1_5, hz_6, hP1, hK1, hD1⟩ := hB
  rw [ht] at hP1
  obtain ⟨hP, hD⟩ := va_joinP (wr := []) (rx := []) (pl1 := (pq_WD cI cZ cM cT hh ms gv tn tb κ1_5)) hP hD [] [] rfl rfl (by decide) (by decide) hk1 hFc hP1 hD1
  generalize H1 = H at hP hS ⊢
  have hP : va_P (dC, dI) vwCl ([] ++ (pq_WD cI cZ cM cT hh ms gv tn tb κ1_5)) H := hP
  have hD : va_D A ([] ++ (pq_WD cI cZ cM cT hh ms gv tn tb κ1_5)) := hD
  refine W.widen (k := k0) (n := n0) (by first | exact Nat.le_of_ble_eq_true rfl | omega) (by first | exact Nat.le_of_ble_eq_true rfl | omega) ?_
  obtain rfl : r_4 = zi 1 := hw
  refine pz_if_ne (tgt := 752) hx hb (by omega) dL_law_747 (by decide) (fun c_7 => ?_) (fun c_7 => ?_)
  · exact K752 _ _ _ _ _ _ _ _ _ _ (by omega) (by omega) hms hlen hz_6 hP hD hS (lv_sub hl [0, 1, 2, 3, 4] rfl)
  · exact absurd c_7 (by omega)

set_option maxHeartbeats 4000000 in
set_option maxRecDepth 100000 in
theorem law_382 {p : Program} {l : Launch} {e : Env} {s : State} {m : MethodId} {below : List Frame} {meth : Method} {c : Code} {dC : Nat → ClassId} {dI : Nat → Nat → Nat} {cI cZ cM cT : ClassId} (hnt : l.stackTraces = false) {a0 b L hh : Nat} {xs : Nat → Int32} (hL : L ≤ 260) (C0 : lw_At p s m meth c b L xs) (hts : ∀ w ∈ zs_law, w.before #[Value.ref b] s = true) {A : Nat → Prop} (hA : ∀ q : Nat, s.heap.size ≤ q → A q) (hA2 : ∀ q : Nat, A q → s.heap.size ≤ q) (hZ : zB a0 A s s.heap) (hK : va_K (dC, dI) vwCl (zT4 cI cZ cM cT) s) {ms : List pq_M} {gv tn tb : Int} (hms : pq_mo ms) (hlen : 1 ≤ ms.length) {j : Int} (hj : 0 ≤ j ∧ j < 50) {k0 n0 : Nat} (hk0 : k0 ≤ 650 ∧ n0 ≤ 15500) (K752 : ∀ (ms : List pq_M) (gv tn tb : Int) (κ : pq_S) (k1 n1 : Nat) (H : Heap) (locs : List Loc) (ls : Array Slot), k1 ≤ k0 + 6 → n1 ≤ n0 + 40 → pq_mo ms → 1 ≤ ms.length → pq_Sok κ → va_P (dC, dI) vwCl ([] ++ (pq_WD cI cZ cM cT hh ms gv tn tb κ)) H → va_D A ([] ++ (pq_WD cI cZ cM cT hh ms gv tn tb κ)) → va_S A s.heap H locs → lv_has ls 14 [(0, .ref b), (1, .ref hh), (2, .int (zi gv)), (3, .int (zi tn)), (4, .int (zi j))] → W p l e room_1 s m #[Value.ref b] below meth c H locs k1 n1 (lw_Z below #[Value.ref b] s) (F0 m 752 ls [])) : ∀ (x9 : Int32) (w : Int) (am aw av ax : Nat) (T : pq_T) (kk ka kb : Int) (κ : pq_S) (H : Heap) (locs : List Loc) (ls : Array Slot), (0 ≤ w ∧ w < (ms.length : Int)) → ms[w.toNat]? = some (am, aw, av, ax, T, kk, ka, kb) → pq_Sok κ → va_P (dC, dI) vwCl ([] ++ (pq_WD cI cZ cM cT hh ms gv tn tb κ)) H → va_D A ([] ++ (pq_WD cI cZ cM cT hh ms gv tn tb κ)) → va_S A s.heap H locs → lv_has ls 14 [(0, .ref b), (1, .ref hh), (2, .int (zi gv)), (3, .int (zi tn)), (4, .int (zi j)), (5, .int x9), (6, .int (zi (ms.length : Int))), (7, .int (zi w)), (8, .int (zi kk)), (9, .int (zi tb))] → W p l e room_1 s m #[Value.ref b] below meth c H locs k0 n0 (lw_Z below #[Value.ref b] s) (F0 m 382 ls []) := by
  intro x9 w am aw av ax T kk ka kb κ H locs ls hw9 hμ hκ hP hD hS hl
  obtain ⟨hx, hb, hr, hml, hown, -, hX0, hbl, hlocks, hgv⟩ := id C0
  have hown : s.vm.findClass RL = some m.cls := hown
  have hX : zX A b L xs s s.heap := ⟨hX0, fun h => absurd (hA2 b h) (Nat.not_le.mpr hbl), hbl⟩
  have hR1 : 600000 ≤ room_1.cells := Nat.le_of_ble_eq_true rfl
  have hR2 : 7300000 ≤ room_1.slots := Nat.le_of_ble_eq_true rfl
  have hms12 := hms.1
  have hmk := pq_mo_at hms hμ
  have hkr := pq_mok_k hmk
  have hok : pq_ok T := hmk.1
  refine lv_iload hx hb dL_law_382 (lv_at hl 8 rfl) ?_
  refine pz_if_ge (tgt := 752) hx hb (by omega) dL_law_384 (by decide) (fun c_1 => ?_) (fun c_1 => ?_)
  · exact K752 _ _ _ _ _ _ _ _ _ _ (by omega) (by omega) hms hlen hκ hP hD hS (lv_sub hl [0, 1, 2, 3, 4] rfl)
  · have hkm : kk = -1 := by omega
    have hμ1 : ms[w.toNat]? = some (am, aw, av, ax, T, -1, ka, kb) := by rw [hμ, hkm]
    refine lv_aload_n hx hb dL_law_387 rfl (lv_at hl 1 rfl) ?_
    refine lv_iload hx hb dL_law_388 (lv_at hl 7 rfl) ?_
    have hPc := hP.part (cx := []) [] rfl
    have hDc := hD.part (cx := []) [] (by decide) rfl
    have hFc := va_freeP (cx := []) hD hS hA [] rfl
    refine va_calli (va_runV (As := [.int (zi w)]) (rest := []) ⟨hx, hb, hml, hown, hts⟩ (c_X7_decide l dC dI cI cZ cM cT H.size hh ms gv tn tb κ w am aw av ax T ka kb (by first | assumption | omega | rfl) hκ (by first | assumption | omega | rfl) hμ1) (cwV 1 hts (zz_gV (goodIn_of _ (by decide +kernel)) zg_c_X7_decide) rfl rfl rfl (by decide +kernel) ⟨(by first | exact Nat.le_of_ble_eq_true rfl | omega), (by first | exact Nat.le_of_ble_eq_true rfl | omega)⟩) ⟨fun a U g mk q => by obtain ⟨q0, q1, qP, qK, qD⟩ := q; exact ⟨q0, q1, qP, va_K.moved (u := U) (U := U.calling g mk a) (Vm.Alike.refl U.vm) qK, qD⟩, va_recv hK hPc (ci := 6) (q0 := 0) rfl rfl, fun U hU hW => ⟨rfl, by rw [hU], by rw [hU]; exact hPc, va_K.moved hW.alike hK, hDc.weaken (fun _ _ _ _ => trivial)⟩⟩ rfl rfl hl.1 rfl (lv_room (by first | exact Nat.le_of_ble_eq_true rfl | omega)) dL_law_390 ⟨(by first | exact Nat.le_of_ble_eq_true rfl | omega), (by first | exact Nat.le_of_ble_eq_true rfl | omega)⟩) hS (fun q _ h => hFc q h) hFc (fun r_2 u t H1 locs ht hvm hw hB hz1 hk1 hS => ?_)
    obtain ⟨κ1_3, ms1_4, hz_5, hm_6, hP1, hK1, hD1⟩ := hB
    rw [ht] at hP1
    obtain ⟨hP, hD⟩ := va_joinP (wr := []) (rx := []) (pl1 := (pq_WD cI cZ cM cT hh ms1_4 gv tn tb κ1_3)) hP hD [] [] rfl rfl (by decide) (by decide) hk1 hFc hP1 hD1
    generalize H1 = H at hP hS ⊢
    have hP : va_P (dC, dI) vwCl ([] ++ (pq_WD cI cZ cM cT hh ms1_4 gv tn tb κ1_3)) H := hP
    have hD : va_D A ([] ++ (pq_WD cI cZ cM cT hh ms1_4 gv tn tb κ1_3)) := hD
    refine W.widen (k := k0) (n := n0) (by first | exact Nat.le_of_ble_eq_true rfl | omega) (by first | exact Nat.le_of_ble_eq_true rfl | omega) ?_
    obtain rfl : r_2 = zi ((pq_dc T).1) := hw
    have hm1 := hm_6
    have hμ2 : ms1_4[w.toNat]? = some (am, aw, av, ax, T, (pq_dc T).1, (pq_dc T).2.1, (pq_dc T).2.2) := by rw [hm1, List.getElem?_set_self (by omega)]
    have hdm : pq_mok (am, aw, av, ax, T, pq_dc T) := ⟨hok, (pq_dc_ok hok).elim (fun h => Or.inl (by rw [h]; exact ⟨rfl, rfl, rfl⟩)) Or.inr⟩
    have hms1 : pq_mo ms1_4 := by rw [hm1]; exact pq_mo_set hms hdm
    have hlen1 : 1 ≤ ms1_4.length := by rw [hm1, List.length_set]; exact hlen
    have hdr : -1 ≤ (pq_dc T).1 ∧ (pq_dc T).1 ≤ 3 := (pq_mok_k (k := (pq_dc T).1) (a := (pq_dc T).2.1) (b := (pq_dc T).2.2) hdm).1
    refine lv_aload_n hx hb dL_law_393 rfl (lv_at hl 1 rfl) ?_
    refine lv_iload hx hb dL_law_394 (lv_at hl 7 rfl) ?_
    refine lv_iconst (v := zi 2) hx hb dL_law_396 (by decide) ?_
    have hPc := hP.part (cx := []) [] rfl
    have hDc := hD.part (cx := []) [] (by decide) rfl
    have hFc := va_freeP (cx := []) hD hS hA [] rfl
    refine va_calli (va_runV (As := [.int (zi w), .int (zi 2)]) (rest := [.int (zi ((pq_dc T).1))]) ⟨hx, hb, hml, hown, hts⟩ (c_X7_ofMachine l dC dI cI cZ cM cT H.size hh ms1_4 gv tn tb κ1_3 w am aw av ax T ((pq_dc T).1) ((pq_dc T).2.1) ((pq_dc T).2.2) 2 hms1 hz_5 (by first | assumption | omega | rfl) hμ2 (by first | assumption | omega | rfl)) (cwV 2 hts (zz_gV (goodIn_of _ (by decide +kernel)) zg_c_X7_ofMachine) rfl rfl rfl (by decide +kernel) ⟨(by first | exact Nat.le_of_ble_eq_true rfl | omega), (by first | exact Nat.le_of_ble_eq_true rfl | omega)⟩) ⟨fun a U g mk q => by obtain ⟨q0, q1, qP, qK, qD⟩ := q; exact ⟨q0, q1, qP, va_K.moved (u := U) (U := U.calling g mk a) (Vm.Alike.refl U.vm) qK, qD⟩, va_recv hK hPc (ci := 6) (q0 := 0) rfl rfl, fun U hU hW => ⟨rfl, by rw [hU], by rw [hU]; exact hPc, va_K.moved hW.alike hK, hDc.weaken (fun _ _ _ _ => trivial)⟩⟩ rfl rfl hl.1 rfl (lv_room (by first | exact Nat.le_of_ble_eq_true rfl | omega)) dL_law_397 ⟨(by first | exact Nat.le_of_ble_eq_true rfl | omega), (by first | exact Nat.le_of_ble_eq_true rfl | omega)⟩) hS (fun q _ h => hFc q h) hFc (fun r_7 u t H1 locs ht hvm hw hB hz1 hk1 hS => ?_)
    obtain ⟨κ1_8, hz_9, hP1, hK1, hD1⟩ := hB
    rw [ht] at hP1
    obtain ⟨hP, hD⟩ := va_joinP (wr := []) (rx := []) (pl1 := (pq_WD cI cZ cM cT hh ms1_4 gv tn tb κ1_8)) hP hD [] [] rfl rfl (by decide) (by decide) hk1 hFc hP1 hD1
    generalize H1 = H at hP hS ⊢
    have hP : va_P (dC, dI) vwCl ([] ++ (pq_WD cI cZ cM cT hh ms1_4 gv tn tb κ1_8)) H := hP
    have hD : va_D A ([] ++ (pq_WD cI cZ cM cT hh ms1_4 gv tn tb κ1_8)) := hD
    refine W.widen (k := k0) (n := n0) (by first | exact Nat.le_of_ble_eq_true rfl | omega) (by first | exact Nat.le_of_ble_eq_true rfl | omega) ?_
    obtain rfl : r_7 = zi (pq_om T ((pq_dc T).1) ((pq_dc T).2.1) ((pq_dc T).2.2) (2 : Int)) := hw
    refine pz_top (y := zi ((pq_dc T).1)) (congrArg zi (rfl)) ?_
    refine lv_icmp_eq (tgt := 752) hx hb dL_law_400 (by decide) (fun _ => ?_) (fun h => absurd (congrArg zi (show (pq_dc T).1 = (pq_dc T).1 from rfl)) h)
    exact K752 _ _ _ _ _ _ _ _ _ _ (by omega) (by omega) hms1 hlen1 hz_9 hP hD hS (lv_sub hl [0, 1, 2, 3, 4] rfl)

set_option maxHeartbeats 4000000 in
set_option maxRecDepth 100000 in
theorem law_405 {p : Program} {l : Launch} {e : Env} {s : State} {m : MethodId} {below : List Frame} {meth : Method} {c : Code} {dC : Nat → ClassId} {dI : Nat → Nat → Nat} {cI cZ cM cT : ClassId} (hnt : l.stackTraces = false) {a0 b L hh : Nat} {xs : Nat → Int32} (hL : L ≤ 260) (C0 : lw_At p s m meth c b L xs) (hts : ∀ w ∈ zs_law, w.before #[Value.ref b] s = true) {A : Nat → Prop} (hA : ∀ q : Nat, s.heap.size ≤ q → A q) (hA2 : ∀ q : Nat, A q → s.heap.size ≤ q) (hZ : zB a0 A s s.heap) (hK : va_K (dC, dI) vwCl (zT4 cI cZ cM cT) s) {ms : List pq_M} {gv tn tb : Int} (hms : pq_mo ms) (hlen : 1 ≤ ms.length) {j : Int} (hj : 0 ≤ j ∧ j < 50) {k0 n0 : Nat} (hk0 : k0 ≤ 650 ∧ n0 ≤ 15500) (K752 : ∀ (ms : List pq_M) (gv tn tb : Int) (κ : pq_S) (k1 n1 : Nat) (H : Heap) (locs : List Loc) (ls : Array Slot), k1 ≤ k0 + 6 → n1 ≤ n0 + 40 → pq_mo ms → 1 ≤ ms.length → pq_Sok κ → va_P (dC, dI) vwCl ([] ++ (pq_WD cI cZ cM cT hh ms gv tn tb κ)) H → va_D A ([] ++ (pq_WD cI cZ cM cT hh ms gv tn tb κ)) → va_S A s.heap H locs → lv_has ls 14 [(0, .ref b), (1, .ref hh), (2, .int (zi gv)), (3, .int (zi tn)), (4, .int (zi j))] → W p l e room_1 s m #[Value.ref b] below meth c H locs k1 n1 (lw_Z below #[Value.ref b] s) (F0 m 752 ls [])) : ∀ (x9 : Int32) (w : Int) (am aw av ax : Nat) (T : pq_T) (kk ka kb : Int) (κ : pq_S) (H : Heap) (locs : List Loc) (ls : Array Slot), (0 ≤ w ∧ w < (ms.length : Int)) → ms[w.toNat]? = some (am, aw, av, ax, T, kk, ka, kb) → pq_Sok κ → va_P (dC, dI) vwCl ([] ++ (pq_WD cI cZ cM cT hh ms gv tn tb κ)) H → va_D A ([] ++ (pq_WD cI cZ cM cT hh ms gv tn tb κ)) → va_S A s.heap H locs → lv_has ls 14 [(0, .ref b), (1, .ref hh), (2, .int (zi gv)), (3, .int (zi tn)), (4, .int (zi j)), (5, .int x9), (6, .int (zi (ms.length : Int))), (7, .int (zi w)), (8, .int (zi kk)), (9, .int (zi tb))] → W p l e room_1 s m #[Value.ref b] below meth c H locs k0 n0 (lw_Z below #[Value.ref b] s) (F0 m 405 ls []) := by
  intro x9 w am aw av ax T kk ka kb κ H locs ls hw9 hμ hκ hP hD hS hl
  obtain ⟨hx, hb, hr, hml, hown, -, hX0, hbl, hlocks, hgv⟩ := id C0
  have hown : s.vm.findClass RL = some m.cls := hown
  have hX : zX A b L xs s s.heap := ⟨hX0, fun h => absurd (hA2 b h) (Nat.not_le.mpr hbl), hbl⟩
  have hR1 : 600000 ≤ room_1.cells := Nat.le_of_ble_eq_true rfl
  have hR2 : 7300000 ≤ room_1.slots := Nat.le_of_ble_eq_true rfl
  have hms12 := hms.1
  refine lv_iload hx hb dL_law_405 (lv_at hl 5 rfl) ?_
  refine lv_iconst (v := zi 3) hx hb dL_law_407 (by decide) ?_
  refine lv_ishr hx hb dL_law_408 ?_
  refine lv_iconst (v := zi 4) hx hb dL_law_409 (by decide) ?_
  have hPc := hP.sub (ws' := []) [] rfl
  have hDc := hD.sub (ws' := []) [] (by decide) rfl
  have hFc := va_free (wc := []) hD hS hA [] rfl
  refine va_calli (va_runS (As := [.int (x9 >>> ((zi 3) &&& 31)), .int (zi 4)]) (rest := []) ⟨hx, hb, hml, hown, hts⟩ (c_L_below l dC dI cI cZ cM cT H.size (x9 >>> ((zi 3) &&& 31)) 4 (by first | assumption | omega | rfl)) (va_cwS 2 hts (zz_gS (goodIn_of _ (by decide +kernel)) zg_c_L_below) rfl rfl rfl (by decide +kernel) ⟨(by first | exact Nat.le_of_ble_eq_true rfl | omega), (by first | exact Nat.le_of_ble_eq_true rfl | omega)⟩) ⟨fun a U g mk q => by obtain ⟨q0, q1, qP, qK, qD⟩ := q; exact ⟨q0, q1, qP, va_K.moved (u := U) (U := U.calling g mk a) (Vm.Alike.refl U.vm) qK, qD⟩, fun U hU hW => ⟨rfl, by rw [hU], by rw [hU]; exact hPc, va_K.moved hW.alike hK, hDc.weaken (fun _ _ _ _ => trivial)⟩⟩ rfl rfl hl.1 rfl (lv_room (by first | exact Nat.le_of_ble_eq_true rfl | omega)) dL_law_410 ⟨(by first | exact Nat.le_of_ble_eq_true rfl | omega), (by first | exact Nat.le_of_ble_eq_true rfl | omega)⟩) hS (fun q _ h => hFc q h) hFc (fun r_1 u t H1 locs ht hvm hw hB hz1 hk1 hS => ?_)
  obtain ⟨hP1, hK1, hD1⟩ := hB
  rw [ht] at hP1
  obtain ⟨hP, hD⟩ := va_joinQ (wr := []) (w1 := []) (pl := (pq_WD cI cZ cM cT hh ms gv tn tb κ)) hP hD [] [] rfl rfl (by decide) (by decide) hk1 hFc hP1 hD1
  generalize H1 = H at hP hS ⊢
  have hP : va_P (dC, dI) vwCl ([] ++ (pq_WD cI cZ cM cT hh ms gv tn tb κ)) H := hP
  have hD : va_D A ([] ++ (pq_WD cI cZ cM cT hh ms gv tn tb κ)) := hD
  refine W.widen (k := k0) (n := n0) (by first | exact Nat.le_of_ble_eq_true rfl | omega) (by first | exact Nat.le_of_ble_eq_true rfl | omega) ?_
  obtain ⟨q_2, rfl, hq_3⟩ := hw
  refine lv_istore (lv' := [(10, .int (zi q_2)), (0, .ref b), (1, .ref hh), (2, .int (zi gv)), (3, .int (zi tn)), (4, .int (zi j)), (5, .int x9), (6, .int (zi (ms.length : Int))), (7, .int (zi w)), (8, .int (zi kk)), (9, .int (zi tb))]) hx hb dL_law_413 hl (by decide) rfl (fun ls hl => ?_)
  refine lv_aload_n hx hb dL_law_415 rfl (lv_at hl 2 rfl) ?_
  refine lv_iconst (v := zi 2) hx hb dL_law_416 (by decide) ?_
  refine lv_iload hx hb dL_law_417 (lv_at hl 0 rfl) ?_
  refine pz_iadd hx hb dL_law_419 ?_
  have hPc := hP.part (cx := []) [] rfl
  have hDc := hD.part (cx := []) [] (by decide) rfl
  have hFc := va_freeP (cx := []) hD hS hA [] rfl
  refine va_calli (va_runV (As := [.int (zi (2 + q_2))]) (rest := []) ⟨hx, hb, hml, hown, hts⟩ (c_X7_many l dC dI cI cZ cM cT H.size hh ms gv tn tb κ (2 + q_2) (by first | assumption | omega | rfl) hκ (by first | assumption | omega | rfl)) (cwV 1 hts (zz_gV (goodIn_of _ (by decide +kernel)) zg_c_X7_many) rfl rfl rfl (by decide +kernel) ⟨(by first | exact Nat.le_of_ble_eq_true rfl | omega), (by first | exact Nat.le_of_ble_eq_true rfl | omega)⟩) ⟨fun a U g mk q => by obtain ⟨q0, q1, qP, qK, qD⟩ := q; exact ⟨q0, q1, qP, va_K.moved (u := U) (U := U.calling g mk a) (Vm.Alike.refl U.vm) qK, qD⟩, va_recv hK hPc (ci := 6) (q0 := 0) rfl rfl, fun U hU hW => ⟨rfl, by rw [hU], by rw [hU]; exact hPc, va_K.moved hW.alike hK, hDc.weaken (fun _ _ _ _ => trivial)⟩⟩ rfl rfl hl.1 rfl (lv_room (by first | exact Nat.le_of_ble_eq_true rfl | omega)) dL_law_420 ⟨(by first | exact Nat.le_of_ble_eq_true rfl | omega), (by first | exact Nat.le_of_ble_eq_true rfl | omega)⟩) hS (fun q _ h => hFc q h) hFc (fun r_4 u t H1 locs ht hvm hw hB hz1 hk1 hS => ?_)
  obtain ⟨hP1, hK1, hD1⟩ := hB
  rw [ht] at hP1
  obtain ⟨hP, hD⟩ := va_joinP (wr := []) (rx := []) (pl1 := (pq_WD cI cZ cM cT hh ms gv tn tb κ)) hP hD [] [] rfl rfl (by decide) (by decide) hk1 hFc hP1 hD1
  generalize H1 = H at hP hS ⊢
  have hP : va_P (dC, dI) vwCl ([] ++ (pq_WD cI cZ cM cT hh ms gv tn tb κ)) H := hP
  have hD : va_D A ([] ++ (pq_WD cI cZ cM cT hh ms gv tn tb κ)) := hD
  refine W.widen (k := k0) (n := n0) (by first | exact Nat.le_of_ble_eq_true rfl | omega) (by first | exact Nat.le_of_ble_eq_true rfl | omega) ?_
  obtain rfl : r_4 = zi (pq_ma ms gv tn tb (2 + q_2)) := hw
  refine pz_top (y := zi (pq_ck q_2 ms)) (congrArg zi (by rw [show (2 + q_2 : Int) = 1 + (q_2 + 1) by omega, pq_ma_k (by omega), show q_2 + 1 - 1 = q_2 by omega])) ?_
  refine lv_istore (lv' := [(11, .int (zi (pq_ck q_2 ms))), (10, .int (zi q_2)), (0, .ref b), (1, .ref hh), (2, .int (zi gv)), (3, .int (zi tn)), (4, .int (zi j)), (5, .int x9), (6, .int (zi (ms.length : Int))), (7, .int (zi w)), (8, .int (zi kk)), (9, .int (zi tb))]) hx hb dL_law_423 hl (by decide) rfl (fun ls hl => ?_)
  refine lv_aload_n hx hb dL_law_425 rfl (lv_at hl 3 rfl) ?_
  refine lv_iload hx hb dL_law_426 (lv_at hl 1 rfl) ?_
  have hPc := hP.part (cx := []) [] rfl
  have hDc := hD.part (cx := []) [] (by decide) rfl
  have hFc := va_freeP (cx := []) hD hS hA [] rfl
  refine va_calli (va_runV (As := [.int (zi q_2)]) (rest := []) ⟨hx, hb, hml, hown, hts⟩ (c_X7_doubt l dC dI cI cZ cM cT H.size hh ms gv tn tb κ q_2 (by first | assumption | omega | rfl) hκ (by first | assumption | omega | rfl)) (cwV 1 hts (zz_gV (goodIn_of _ (by decide +kernel)) zg_c_X7_doubt) rfl rfl rfl (by decide +kernel) ⟨(by first | exact Nat.le_of_ble_eq_true rfl | omega), (by first | exact Nat.le_of_ble_eq_true rfl | omega)⟩) ⟨fun a U g mk q => by obtain ⟨q0, q1, qP, qK, qD⟩ := q; exact ⟨q0, q1, qP, va_K.moved (u := U) (U := U.calling g mk a) (Vm.Alike.refl U.vm) qK, qD⟩, va_recv hK hPc (ci := 6) (q0 := 0) rfl rfl, fun U hU hW => ⟨rfl, by rw [hU], by rw [hU]; exact hPc, va_K.moved hW.alike hK, hDc.weaken (fun _ _ _ _ => trivial)⟩⟩ rfl rfl hl.1 rfl (lv_room (by first | exact Nat.le_of_ble_eq_true rfl | omega)) dL_law_428 ⟨(by first | exact Nat.le_of_ble_eq_true rfl | omega), (by first | exact Nat.le_of_ble_eq_true rfl | omega)⟩) hS (fun q _ h => hFc q h) hFc (fun r_5 u t H1 locs ht hvm hw hB hz1 hk1 hS => ?_)
  obtain ⟨κ1_6, ms1_7, tb1_8, hz_9, hm_10, hP1, hK1, hD1⟩ := hB
  rw [ht] at hP1
  obtain ⟨hP, hD⟩ := va_joinP (wr := []) (rx := []) (pl1 := (pq_WD cI cZ cM cT hh ms1_7 gv tn tb1_8 κ1_6)) hP hD [] [] rfl rfl (by decide) (by decide) hk1 hFc hP1 hD1
  generalize H1 = H at hP hS ⊢
  have hP : va_P (dC, dI) vwCl ([] ++ (pq_WD cI cZ cM cT hh ms1_7 gv tn tb1_8 κ1_6)) H := hP
  have hD : va_D A ([] ++ (pq_WD cI cZ cM cT hh ms1_7 gv tn tb1_8 κ1_6)) := hD
  refine W.widen (k := k0) (n := n0) (by first | exact Nat.le_of_ble_eq_true rfl | omega) (by first | exact Nat.le_of_ble_eq_true rfl | omega) ?_
  obtain rfl : r_5 = zi (pq_ck q_2 ms) := hw
  have hm1 := hm_10
  have hms1 : pq_mo ms1_7 := by rw [hm1.1]; have h := pq_op_mo (y := q_2) hms ms.length; rwa [List.take_length, List.drop_length, List.append_nil] at h
  have hlen1 : 1 ≤ ms1_7.length := by rw [hm1.1, List.length_map]; exact hlen
  refine lv_iload hx hb dL_law_431 (lv_at hl 0 rfl) ?_
  refine lv_icmp_ne (tgt := 461) hx hb dL_law_433 (by decide) (fun h => absurd (congrArg zi (show pq_ck q_2 ms = pq_ck q_2 ms from rfl)) h) (fun _ => ?_)
  refine lv_aload_n hx hb dL_law_436 rfl (lv_at hl 3 rfl) ?_
  refine lv_iconst (v := zi 2) hx hb dL_law_437 (by decide) ?_
  refine lv_iload hx hb dL_law_438 (lv_at hl 1 rfl) ?_
  refine pz_iadd hx hb dL_law_440 ?_
  have hPc := hP.part (cx := []) [] rfl
  have hDc := hD.part (cx := []) [] (by decide) rfl
  have hFc := va_freeP (cx := []) hD hS hA [] rfl
  refine va_calli (va_runV (As := [.int (zi (2 + q_2))]) (rest := []) ⟨hx, hb, hml, hown, hts⟩ (c_X7_many l dC dI cI cZ cM cT H.size hh ms1_7 gv tn tb1_8 κ1_6 (2 + q_2) hms1 hz_9 (by first | assumption | omega | rfl)) (cwV 1 hts (zz_gV (goodIn_of _ (by decide +kernel)) zg_c_X7_many) rfl rfl rfl (by decide +kernel) ⟨(by first | exact Nat.le_of_ble_eq_true rfl | omega), (by first | exact Nat.le_of_ble_eq_true rfl | omega)⟩) ⟨fun a U g mk q => by obtain ⟨q0, q1, qP, qK, qD⟩ := q; exact ⟨q0, q1, qP, va_K.moved (u := U) (U := U.calling g mk a) (Vm.Alike.refl U.vm) qK, qD⟩, va_recv hK hPc (ci := 6) (q0 := 0) rfl rfl, fun U hU hW => ⟨rfl, by rw [hU], by rw [hU]; exact hPc, va_K.moved hW.alike hK, hDc.weaken (fun _ _ _ _ => trivial)⟩⟩ rfl rfl hl.1 rfl (lv_room (by first | exact Nat.le_of_ble_eq_true rfl | omega)) dL_law_441 ⟨(by first | exact Nat.le_of_ble_eq_true rfl | omega), (by first | exact Nat.le_of_ble_eq_true rfl | omega)⟩) hS (fun q _ h => hFc q h) hFc (fun r_11 u t H1 locs ht hvm hw hB hz1 hk1 hS => ?_)
  obtain ⟨hP1, hK1, hD1⟩ := hB
  rw [ht] at hP1
  obtain ⟨hP, hD⟩ := va_joinP (wr := []) (rx := []) (pl1 := (pq_WD cI cZ cM cT hh ms1_7 gv tn tb1_8 κ1_6)) hP hD [] [] rfl rfl (by decide) (by decide) hk1 hFc hP1 hD1
  generalize H1 = H at hP hS ⊢
  have hP : va_P (dC, dI) vwCl ([] ++ (pq_WD cI cZ cM cT hh ms1_7 gv tn tb1_8 κ1_6)) H := hP
  have hD : va_D A ([] ++ (pq_WD cI cZ cM cT hh ms1_7 gv tn tb1_8 κ1_6)) := hD
  refine W.widen (k := k0) (n := n0) (by first | exact Nat.le_of_ble_eq_true rfl | omega) (by first | exact Nat.le_of_ble_eq_true rfl | omega) ?_
  obtain rfl : r_11 = zi (pq_ma ms1_7 gv tn tb1_8 (2 + q_2)) := hw
  refine pz_top (y := zi 0) (congrArg zi (by rw [show (2 + q_2 : Int) = 1 + (q_2 + 1) by omega, pq_ma_k (by omega), show q_2 + 1 - 1 = q_2 by omega, hm1.1]; exact pq_ck_op0 (by omega) ms)) ?_
  refine pz_if_ne (tgt := 461) hx hb (by omega) dL_law_444 (by decide) (fun c_12 => ?_) (fun c_12 => ?_)
  · exact absurd c_12 (by omega)
  · refine lv_aload_n hx hb dL_law_447 rfl (lv_at hl 3 rfl) ?_
    refine lv_bipush (v := zi 9) hx hb dL_law_448 (by decide) ?_
    have hPc := hP.part (cx := []) [] rfl
    have hDc := hD.part (cx := []) [] (by decide) rfl
    have hFc := va_freeP (cx := []) hD hS hA [] rfl
    refine va_calli (va_runV (As := [.int (zi 9)]) (rest := []) ⟨hx, hb, hml, hown, hts⟩ (c_X7_many l dC dI cI cZ cM cT H.size hh ms1_7 gv tn tb1_8 κ1_6 9 hms1 hz_9 (by first | assumption | omega | rfl)) (cwV 1 hts (zz_gV (goodIn_of _ (by decide +kernel)) zg_c_X7_many) rfl rfl rfl (by decide +kernel) ⟨(by first | exact Nat.le_of_ble_eq_true rfl | omega), (by first | exact Nat.le_of_ble_eq_true rfl | omega)⟩) ⟨fun a U g mk q => by obtain ⟨q0, q1, qP, qK, qD⟩ := q; exact ⟨q0, q1, qP, va_K.moved (u := U) (U := U.calling g mk a) (Vm.Alike.refl U.vm) qK, qD⟩, va_recv hK hPc (ci := 6) (q0 := 0) rfl rfl, fun U hU hW => ⟨rfl, by rw [hU], by rw [hU]; exact hPc, va_K.moved hW.alike hK, hDc.weaken (fun _ _ _ _ => trivial)⟩⟩ rfl rfl hl.1 rfl (lv_room (by first | exact Nat.le_of_ble_eq_true rfl | omega)) dL_law_450 ⟨(by first | exact Nat.le_of_ble_eq_true rfl | omega), (by first | exact Nat.le_of_ble_eq_true rfl | omega)⟩) hS (fun q _ h => hFc q h) hFc (fun r_13 u t H1 locs ht hvm hw hB hz1 hk1 hS => ?_)
    obtain ⟨hP1, hK1, hD1⟩ := hB
    rw [ht] at hP1
    obtain ⟨hP, hD⟩ := va_joinP (wr := []) (rx := []) (pl1 := (pq_WD cI cZ cM cT hh ms1_7 gv tn tb1_8 κ1_6)) hP hD [] [] rfl rfl (by decide) (by decide) hk1 hFc hP1 hD1
    generalize H1 = H at hP hS ⊢
    have hP : va_P (dC, dI) vwCl ([] ++ (pq_WD cI cZ cM cT hh ms1_7 gv tn tb1_8 κ1_6)) H := hP
    have hD : va_D A ([] ++ (pq_WD cI cZ cM cT hh ms1_7 gv tn tb1_8 κ1_6)) := hD
    refine W.widen (k := k0) (n := n0) (by first | exact Nat.le_of_ble_eq_true rfl | omega) (by first | exact Nat.le_of_ble_eq_true rfl | omega) ?_
    obtain rfl : r_13 = zi (pq_ma ms1_7 gv tn tb1_8 (9 : Int)) := hw
    refine pz_top (y := zi (tb + pq_ck q_2 ms)) (congrArg zi (hm1.2)) ?_
    refine lv_iload hx hb dL_law_453 (lv_at hl 11 rfl) ?_
    refine lv_iload hx hb dL_law_455 (lv_at hl 0 rfl) ?_
    refine pz_iadd hx hb dL_law_457 ?_
    refine lv_icmp_eq (tgt := 752) hx hb dL_law_458 (by decide) (fun _ => ?_) (fun h => absurd (congrArg zi (show tb + pq_ck q_2 ms = tb + (pq_ck q_2 ms) from rfl)) h)
    exact K752 _ _ _ _ _ _ _ _ _ _ (by omega) (by omega) hms1 hlen1 hz_9 hP hD hS (lv_sub hl [2, 3, 4, 5, 6] rfl)
