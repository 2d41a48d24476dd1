/-! p26: the mean, and the walk of meanStop -/
theorem pq_fi_up {x : UInt64} (hx : pq_isf (pq_fd64 x) = true) : ∀ (k m : Nat), m + k < 2048 → pq_ge (FP.dcmp (FP.i2d (zi (m : Nat))) x) = true → pq_ge (FP.dcmp (FP.i2d (zi ((m + k : Nat) : Int))) x) = true
  | 0, m, _, h => h
  | k + 1, m, hk, h => by
    have h1 := pq_fi_up hx k m (by omega) h
    have h2 := pq_fi_at (m := m + k) (by omega)
    unfold pq_fi at h2
    rw [Bool.and_eq_true] at h2
    have h4 := pq_fi_at (m := m + (k + 1)) hk
    unfold pq_fi at h4
    rw [Bool.and_eq_true] at h4
    exact fq_trans h4.1 h2.1 hx h2.2 h1
theorem pq_fm_ok {s c m : Int} (hc : 1 ≤ c ∧ c ≤ 12) (hs : 0 ≤ s ∧ s ≤ 500 * c) (hm : 0 ≤ m ∧ m ≤ 2000) (h : s ≤ m * c) : vf_n64 (FP.ddiv (FP.i2d (zi s)) (FP.i2d (zi c))) ∧ vf_n64 (FP.dsub (FP.ddiv (FP.i2d (zi s)) (FP.i2d (zi c))) 4547007122018943789) ∧ pq_ge (FP.dcmp (FP.i2d (zi m)) (FP.dsub (FP.ddiv (FP.i2d (zi s)) (FP.i2d (zi c))) 4547007122018943789)) = true := by
  obtain ⟨c0, rfl⟩ : ∃ c0 : Nat, c = ((c0 + 1 : Nat) : Int) := ⟨(c - 1).toNat, by omega⟩
  obtain ⟨s0, rfl⟩ : ∃ s0 : Nat, s = (s0 : Int) := ⟨s.toNat, by omega⟩
  obtain ⟨m0, rfl⟩ : ∃ m0 : Nat, m = (m0 : Int) := ⟨m.toNat, by omega⟩
  have hk := pq_fc_at (c := c0) (s := s0) (by omega) (by omega)
  unfold pq_fc at hk
  rw [Bool.and_eq_true, Bool.and_eq_true, Bool.and_eq_true] at hk
  obtain ⟨k1, k2, k3, k4⟩ := hk
  have hle : (s0 + c0) / (c0 + 1) ≤ m0 := by
    have h' : s0 ≤ m0 * (c0 + 1) := by
      have : ((s0 : Nat) : Int) ≤ ((m0 * (c0 + 1) : Nat) : Int) := by rw [Int.natCast_mul]; exact h
      exact Int.ofNat_le.mp this
    have : (s0 + c0) / (c0 + 1) < m0 + 1 := by
      rw [Nat.div_lt_iff_lt_mul (by omega), Nat.add_mul, Nat.one_mul]
      omega
    omega
  have hu := pq_fi_up k3 (m0 - (s0 + c0) / (c0 + 1)) ((s0 + c0) / (c0 + 1)) (by omega) k4
  rw [show (s0 + c0) / (c0 + 1) + (m0 - (s0 + c0) / (c0 + 1)) = m0 by omega] at hu
  exact ⟨pq_nn_ok k1, pq_nn_ok k2, hu⟩
theorem pq_sa_bd {ms : List pq_M} (hm : ∀ μ ∈ ms, pq_mok μ) : 0 ≤ pq_sa ms ∧ pq_sa ms ≤ 500 * pq_ck 0 ms := by
  induction ms with
  | nil => exact ⟨Int.le_refl 0, Int.le_refl 0⟩
  | cons μ r ih =>
    have h1 := ih (fun ν hν => hm ν (List.mem_cons_of_mem _ hν))
    have e : pq_sa (μ :: r) = (if μ.2.2.2.2.2.1 = 0 then μ.2.2.2.2.2.2.1 else 0) + pq_sa r := rfl
    have e2 : pq_ck 0 (μ :: r) = (if μ.2.2.2.2.2.1 = 0 then 1 else 0) + pq_ck 0 r := rfl
    rw [e, e2]
    by_cases q : μ.2.2.2.2.2.1 = 0
    · rw [if_pos q, if_pos q]
      have h2 := hm μ List.mem_cons_self
      rcases h2.2 with ⟨h3, -⟩ | h3
      · omega
      · have h4 := pq_cert_k h3
        have h5 := pq_cert_stop h3 q
        omega
    · rw [if_neg q, if_neg q]
      omega
def zs_c_X7_meanStop : List Cond := .code yX7_meanStop cX7_meanStop 5 (some .double) :: (([.fieldLink RX7 148 "Haltingale" "machineCount" "I", .code yX7_find cX7_find 3 (some (.object "Haltingale$Machine")), .fieldLink RX7 11 "Haltingale" "machines" "[LHaltingale$Machine;", .methodLink RX7 67 yX7_find, .instanceMethod yX7_find, .initialized RX7, .selects RX7 yX7_find yX7_find, .fieldLink RX7 151 "Haltingale$Machine" "kind" "I", .fieldLink RX7 194 "Haltingale$Machine" "a" "I"] : List Cond) ++ wsX70 ++ wsX30)
set_option maxHeartbeats 4000000 in
set_option maxRecDepth 100000 in
theorem c_X7_meanStop (l : Launch) (dC : Nat → ClassId) (dI : Nat → Nat → Nat) (cI cZ cM cT : ClassId) (sz : Nat) (hh : Nat) (ms : List pq_M) (gv : Int) (tn : Int) (tb : Int) (κ : pq_S) (hms : pq_mo ms) (hκ : pq_Sok κ) (hck : 1 ≤ pq_ck 0 ms) : Met l yX7_meanStop zs_c_X7_meanStop ({ frames := 1, cells := 0, slots := 0, locals := 22 }) (va_Pc [.ref hh] (fun U => U.heap.size = sz ∧ va_P (dC, dI) vwCl ([] ++ (pq_WD cI cZ cM cT hh ms gv tn tb κ)) U.heap ∧ va_K (dC, dI) vwCl (zT4 cI cZ cM cT) U ∧ va_D (fun _ => True) ([] ++ (pq_WD cI cZ cM cT hh ms gv tn tb κ)))) (va_Qd (fun (r : UInt64) (_ : Unit) => r = (FP.ddiv (FP.i2d (zi (pq_sa ms))) (FP.i2d (zi (pq_ck 0 ms))))) (fun _ t => va_P (dC, dI) vwCl ([] ++ (pq_WD cI cZ cM cT hh ms gv tn tb κ)) t.heap ∧ va_K (dC, dI) vwCl (zT4 cI cZ cM cT) t ∧ va_D (va_A ([] ++ (pq_WD cI cZ cM cT hh ms gv tn tb κ)) sz) ([] ++ (pq_WD cI cZ cM cT hh ms gv tn tb κ))) (va_A ([] ++ (pq_WD cI cZ cM cT hh ms gv tn tb κ)) sz)) 0 0 (va_A ([] ++ (pq_WD cI cZ cM cT hh ms gv tn tb κ)) sz) := by
  refine Met.ofW (cc := cX7_meanStop) (maxL := 5) (ret := (some .double)) (by decide) rfl ?_
  intro p e s m args below meth c s₁ B hml hv
  obtain ⟨rfl, hsz, hP, hK, hD0⟩ := hv
  have hx := B.exec
  have hb := B.bytes
  have hr := B.returns
  have hts := atoms_spec (ws := zs_c_X7_meanStop) B.pre
  have hown : s.vm.findClass RX7 = some m.cls := findClass_of_methodNamed B.named
  have hlocks := B.notSynchronized
  have hiX7 : ∀ w ∈ wsX70, w ∈ zs_c_X7_meanStop := by decide +kernel
  have hiX3 : ∀ w ∈ wsX30, w ∈ zs_c_X7_meanStop := by decide +kernel
  subst hsz
  have hD := hD0.self (sz := s.heap.size)
  generalize hAe : va_A ([] ++ (pq_WD cI cZ cM cT hh ms gv tn tb κ)) s.heap.size = A at hD ⊢
  have hA : ∀ q : Nat, s.heap.size ≤ q → A q := fun q h => by rw [← hAe]; exact Or.inr h
  have hS : va_S A s.heap s.heap [] := va_S.rf
  have hl := lv_entry ([.ref hh]) (n := 5) (Nat.le_of_ble_eq_true rfl)
  rw [lg_entry_eq]
  generalize (lg_sl ([.ref hh]) ++ List.replicate (5 - (lg_sl ([.ref hh])).length) Slot.unset).toArray = ls at hl ⊢
  have hl : lv_has ls 5 [(0, .ref hh)] := hl
  obtain ⟨mr, ⟨wk, wt, C0⟩, ρ⟩ := κ
  obtain ⟨hzW, hρ⟩ := hκ
  have hP : va_P (dC, dI) vwCl ([(hh, .inr (6, [.ref mr, .ref ρ.1, .ref wk, .ref ρ.2.1.1, .ref ρ.2.2.1, .ref ρ.2.2.2.2.2.1, .int (zi (ms.length : Int)), .int (zi 0), .int (zi gv), .int (zi tn), .int (zi tb)])), (mr, .inl (cM, 12, .inr (.inr (.inr (.inr (pq_mad ms)))))), (wk, .inr (5, [.ref wt, .int (zi (pq_d C0)), .int (zi (pq_q C0)), .int (zi (pq_p C0)), .int (zi (pq_l C0)), .int (zi (pq_g C0))])), (wt, .inl (cI, 1003, .inl (zf (pz_tp (pq_t C0)))))] ++ (pq_rest cI cZ cT ρ ++ pq_pool cI ms)) s.heap := hP
  have hD : va_D A ([(hh, .inr (6, [.ref mr, .ref ρ.1, .ref wk, .ref ρ.2.1.1, .ref ρ.2.2.1, .ref ρ.2.2.2.2.2.1, .int (zi (ms.length : Int)), .int (zi 0), .int (zi gv), .int (zi tn), .int (zi tb)])), (mr, .inl (cM, 12, .inr (.inr (.inr (.inr (pq_mad ms)))))), (wk, .inr (5, [.ref wt, .int (zi (pq_d C0)), .int (zi (pq_q C0)), .int (zi (pq_p C0)), .int (zi (pq_l C0)), .int (zi (pq_g C0))])), (wt, .inl (cI, 1003, .inl (zf (pz_tp (pq_t C0)))))] ++ (pq_rest cI cZ cT ρ ++ pq_pool cI ms)) := hD
  have hml12 := hms.1
  refine lv_iconst (v := zi 0) hx hb dX7_meanStop_0 (by decide) ?_
  refine lv_istore_n (lv' := [(1, .int (zi 0)), (0, .ref hh)]) hx hb dX7_meanStop_1 rfl hl (by decide) rfl (fun ls hl => ?_)
  refine lv_iconst (v := zi 0) hx hb dX7_meanStop_2 (by decide) ?_
  refine lv_istore_n (lv' := [(2, .int (zi 0)), (1, .int (zi 0)), (0, .ref hh)]) hx hb dX7_meanStop_3 rfl hl (by decide) rfl (fun ls hl => ?_)
  refine lv_iconst (v := zi 0) hx hb dX7_meanStop_4 (by decide) ?_
  refine lv_istore_n (lv' := [(3, .int (zi 0)), (2, .int (zi 0)), (1, .int (zi 0)), (0, .ref hh)]) hx hb dX7_meanStop_5 rfl hl (by decide) rfl (fun ls hl => ?_)
  refine pz_loop (fun n9 H locs ls => ∃ (q : Int) (k : Int) (j : Int) , n9 = ((ms.length : Int) - j).toNat ∧ (0 ≤ j ∧ j ≤ (ms.length : Int)) ∧ (q = pq_sa (ms.take j.toNat)) ∧ (k = pq_ck 0 (ms.take j.toNat)) ∧ va_P (dC, dI) vwCl ([(hh, .inr (6, [.ref mr, .ref ρ.1, .ref wk, .ref ρ.2.1.1, .ref ρ.2.2.1, .ref ρ.2.2.2.2.2.1, .int (zi (ms.length : Int)), .int (zi 0), .int (zi gv), .int (zi tn), .int (zi tb)])), (mr, .inl (cM, 12, .inr (.inr (.inr (.inr (pq_mad ms)))))), (wk, .inr (5, [.ref wt, .int (zi (pq_d C0)), .int (zi (pq_q C0)), .int (zi (pq_p C0)), .int (zi (pq_l C0)), .int (zi (pq_g C0))])), (wt, .inl (cI, 1003, .inl (zf (pz_tp (pq_t C0)))))] ++ (pq_rest cI cZ cT ρ ++ pq_pool cI ms)) H ∧ va_D A ([(hh, .inr (6, [.ref mr, .ref ρ.1, .ref wk, .ref ρ.2.1.1, .ref ρ.2.2.1, .ref ρ.2.2.2.2.2.1, .int (zi (ms.length : Int)), .int (zi 0), .int (zi gv), .int (zi tn), .int (zi tb)])), (mr, .inl (cM, 12, .inr (.inr (.inr (.inr (pq_mad ms)))))), (wk, .inr (5, [.ref wt, .int (zi (pq_d C0)), .int (zi (pq_q C0)), .int (zi (pq_p C0)), .int (zi (pq_l C0)), .int (zi (pq_g C0))])), (wt, .inl (cI, 1003, .inl (zf (pz_tp (pq_t C0)))))] ++ (pq_rest cI cZ cT ρ ++ pq_pool cI ms)) ∧ va_S A s.heap H locs ∧ lv_has ls 5 [(0, .ref hh), (1, .int (zi q)), (2, .int (zi k)), (3, .int (zi j))]) (fun n_6 H locs ls hI ih_6 => ?_) _ ⟨0, 0, 0, rfl, (by first | assumption | omega | rfl), rfl, rfl, hP, hD, hS, lv_sub hl [3, 2, 1, 0] rfl⟩
  obtain ⟨q, k, j, hn_6, hj, hq, hk, hP, hD, hS, hl⟩ := hI
  refine lv_iload_n hx hb dX7_meanStop_6 rfl (lv_at hl 3 rfl) ?_
  refine lv_aload_n hx hb dX7_meanStop_7 rfl (lv_at hl 0 rfl) ?_
  refine va_get (D := (dC, dI)) (ci := 6) (v := .int (zi (ms.length : Int))) (C := RX7) (T := TX7) (N := 11) hx hb hts hiX7 hown hK hP 0 rfl rfl 6 (by decide) (hts (.fieldLink RX7 148 "Haltingale" "machineCount" "I") (by decide +kernel)) (fun _ h9 => h9) rfl dX7_meanStop_8 ?_
  refine pz_icmp_ge (tgt := 46) hx hb (by omega) dX7_meanStop_11 (by decide) (fun c_1 => ?_) (fun c_1 => ?_)
  · rw [show j.toNat = ms.length by omega, List.take_length] at hq hk
    have hckb := pq_ck_bd 0 ms
    have hsab := pq_sa_bd hms.2
    refine lv_iload_n hx hb dX7_meanStop_46 rfl (lv_at hl 2 rfl) ?_
    refine pz_if_ne (tgt := 54) hx hb (by omega) dX7_meanStop_47 (by decide) (fun c_2 => ?_) (fun c_2 => ?_)
    · refine lv_iload_n hx hb dX7_meanStop_54 rfl (lv_at hl 1 rfl) ?_
      refine lv_i2d hx hb dX7_meanStop_55 ?_
      refine lv_iload_n hx hb dX7_meanStop_56 rfl (lv_at hl 2 rfl) ?_
      refine lv_i2d hx hb dX7_meanStop_57 ?_
      have hfm := pq_fm_ok (s := pq_sa ms) (c := pq_ck 0 ms) (m := 500) ⟨hck, by omega⟩ (by omega) (by omega) (by omega)
      rw [hq, hk]
      refine lv_ddiv hx hb dX7_meanStop_58 hfm.1 ?_
      have hP : va_P (dC, dI) vwCl ([] ++ (pq_WD cI cZ cM cT hh ms gv tn tb (mr, (wk, wt, C0), ρ))) H := hP
      have hD : va_D A ([] ++ (pq_WD cI cZ cM cT hh ms gv tn tb (mr, (wk, wt, C0), ρ))) := hD
      refine W.widen (k := 0) (n := 0) (Nat.le_of_ble_eq_true rfl) (Nat.le_of_ble_eq_true rfl) ?_
      exact W.dret (v := (FP.ddiv (FP.i2d (zi (pq_sa ms))) (FP.i2d (zi (pq_ck 0 ms))))) hx hb hr (fun t ht hW => ⟨⟨(FP.ddiv (FP.i2d (zi (pq_sa ms))) (FP.i2d (zi (pq_ck 0 ms)))), (), rfl, rfl, ⟨by rw [ht]; exact hP, va_K.moved hW.alike hK, hD⟩⟩, hS.F ht⟩) hS.2.2 dX7_meanStop_59
    · exact absurd c_2 (by omega)
  · obtain ⟨μ, hμ⟩ : ∃ μ, ms[j.toNat]? = some μ := ⟨_, List.getElem?_eq_getElem (by omega)⟩
    obtain ⟨am, aw, av, ax, T, kk, ka, kb⟩ := μ
    have hil := (List.getElem?_eq_some_iff.mp hμ).1
    have hmk := pq_mo_at hms hμ
    have hok : pq_ok T := hmk.1
    have hkr := pq_mok_k hmk
    have hn := hok.1
    have hP := pq_focusR hP hμ
    have hD := pq_focusRD hD hμ
    have hP : va_P (dC, dI) vwCl ([(hh, .inr (6, [.ref mr, .ref ρ.1, .ref wk, .ref ρ.2.1.1, .ref ρ.2.2.1, .ref ρ.2.2.2.2.2.1, .int (zi (ms.length : Int)), .int (zi 0), .int (zi gv), .int (zi tn), .int (zi tb)])), (mr, .inl (cM, 12, .inr (.inr (.inr (.inr (pq_mad ms)))))), (wk, .inr (5, [.ref wt, .int (zi (pq_d C0)), .int (zi (pq_q C0)), .int (zi (pq_p C0)), .int (zi (pq_l C0)), .int (zi (pq_g C0))])), (wt, .inl (cI, 1003, .inl (zf (pz_tp (pq_t C0))))), (am, .inr (3, [.int (zi (pq_n T)), .ref aw, .ref av, .ref ax, .int (zi kk), .int (zi ka), .int (zi kb)])), (aw, .inl (cI, 8, .inl (zf (pq_w T)))), (av, .inl (cI, 8, .inl (zf (pq_v T)))), (ax, .inl (cI, 8, .inl (zf (pq_x T))))] ++ (pq_rest cI cZ cT ρ ++ pq_pool cI (ms.eraseIdx j.toNat))) H := hP
    have hD : va_D A ([(hh, .inr (6, [.ref mr, .ref ρ.1, .ref wk, .ref ρ.2.1.1, .ref ρ.2.2.1, .ref ρ.2.2.2.2.2.1, .int (zi (ms.length : Int)), .int (zi 0), .int (zi gv), .int (zi tn), .int (zi tb)])), (mr, .inl (cM, 12, .inr (.inr (.inr (.inr (pq_mad ms)))))), (wk, .inr (5, [.ref wt, .int (zi (pq_d C0)), .int (zi (pq_q C0)), .int (zi (pq_p C0)), .int (zi (pq_l C0)), .int (zi (pq_g C0))])), (wt, .inl (cI, 1003, .inl (zf (pz_tp (pq_t C0))))), (am, .inr (3, [.int (zi (pq_n T)), .ref aw, .ref av, .ref ax, .int (zi kk), .int (zi ka), .int (zi kb)])), (aw, .inl (cI, 8, .inl (zf (pq_w T)))), (av, .inl (cI, 8, .inl (zf (pq_v T)))), (ax, .inl (cI, 8, .inl (zf (pq_x T))))] ++ (pq_rest cI cZ cT ρ ++ pq_pool cI (ms.eraseIdx j.toNat))) := hD
    refine lv_aload_n hx hb dX7_meanStop_14 rfl (lv_at hl 0 rfl) ?_
    refine lv_iload_n hx hb dX7_meanStop_15 rfl (lv_at hl 3 rfl) ?_
    have hPc := hP.sub (ws' := [(hh, .inr (6, [.ref mr, .ref ρ.1, .ref wk, .ref ρ.2.1.1, .ref ρ.2.2.1, .ref ρ.2.2.2.2.2.1, .int (zi (ms.length : Int)), .int (zi 0), .int (zi gv), .int (zi tn), .int (zi tb)])), (mr, .inl (cM, 12, .inr (.inr (.inr (.inr (pq_mad ms))))))]) [0, 1] rfl
    have hDc := hD.sub (ws' := [(hh, .inr (6, [.ref mr, .ref ρ.1, .ref wk, .ref ρ.2.1.1, .ref ρ.2.2.1, .ref ρ.2.2.2.2.2.1, .int (zi (ms.length : Int)), .int (zi 0), .int (zi gv), .int (zi tn), .int (zi tb)])), (mr, .inl (cM, 12, .inr (.inr (.inr (.inr (pq_mad ms))))))]) [0, 1] (by decide) rfl
    have hFc := va_free (wc := [(hh, .inr (6, [.ref mr, .ref ρ.1, .ref wk, .ref ρ.2.1.1, .ref ρ.2.2.1, .ref ρ.2.2.2.2.2.1, .int (zi (ms.length : Int)), .int (zi 0), .int (zi gv), .int (zi tn), .int (zi tb)])), (mr, .inl (cM, 12, .inr (.inr (.inr (.inr (pq_mad ms))))))]) hD hS hA [0, 1] rfl
    refine va_callr (va_runV (As := [.int (zi j)]) (rest := []) ⟨hx, hb, hml, hown, hts⟩ (c_X7_find l dC dI cI cZ cM cT H.size hh mr ρ.1 wk ρ.2.1.1 ρ.2.2.1 ρ.2.2.2.2.2.1 (ms.length : Int) gv tn tb (pq_mad ms) j am (by omega) (pq_mad_at hμ)) (cwV 1 hts (goodIn_of _ (by decide +kernel)) rfl rfl rfl (by decide +kernel) ⟨Nat.le_of_ble_eq_true rfl, Nat.le_of_ble_eq_true rfl⟩) ⟨fun a U g mk q => by obtain ⟨q0, q1, qP, qK, qD⟩ := q; exact ⟨q0, q1, qP, va_K.moved (u := U) (U := U.calling g mk a) (Vm.Alike.refl U.vm) qK, qD⟩, va_recv hK hPc (ci := 6) (q0 := 0) rfl rfl, fun U hU hW => ⟨rfl, by rw [hU], by rw [hU]; exact hPc, va_K.moved hW.alike hK, hDc.weaken (fun _ _ _ _ => trivial)⟩⟩ rfl rfl hl.1 rfl (lv_room (Nat.le_of_ble_eq_true rfl)) dX7_meanStop_16 ⟨Nat.le_of_ble_eq_true rfl, Nat.le_of_ble_eq_true rfl⟩) hS (fun q _ h => hFc q h) hFc (fun u r_3 t H1 locs ht hvm hw hB hz1 hk1 hS => ?_)
    obtain ⟨hrq_4, hP1, hK1, hD1⟩ := hB
    rw [ht] at hP1
    obtain ⟨hP, hD⟩ := va_joinQ (wr := [(wk, .inr (5, [.ref wt, .int (zi (pq_d C0)), .int (zi (pq_q C0)), .int (zi (pq_p C0)), .int (zi (pq_l C0)), .int (zi (pq_g C0))])), (wt, .inl (cI, 1003, .inl (zf (pz_tp (pq_t C0))))), (am, .inr (3, [.int (zi (pq_n T)), .ref aw, .ref av, .ref ax, .int (zi kk), .int (zi ka), .int (zi kb)])), (aw, .inl (cI, 8, .inl (zf (pq_w T)))), (av, .inl (cI, 8, .inl (zf (pq_v T)))), (ax, .inl (cI, 8, .inl (zf (pq_x T))))]) (w1 := [(hh, .inr (6, [.ref mr, .ref ρ.1, .ref wk, .ref ρ.2.1.1, .ref ρ.2.2.1, .ref ρ.2.2.2.2.2.1, .int (zi (ms.length : Int)), .int (zi 0), .int (zi gv), .int (zi tn), .int (zi tb)])), (mr, .inl (cM, 12, .inr (.inr (.inr (.inr (pq_mad ms))))))]) (pl := (pq_rest cI cZ cT ρ ++ pq_pool cI (ms.eraseIdx j.toNat))) hP hD [0, 1] [2, 3, 4, 5, 6, 7] rfl rfl (by decide) (by decide) hk1 hFc hP1 hD1
    generalize H1 = H at hP hS ⊢
    have hP : va_P (dC, dI) vwCl ([(wk, .inr (5, [.ref wt, .int (zi (pq_d C0)), .int (zi (pq_q C0)), .int (zi (pq_p C0)), .int (zi (pq_l C0)), .int (zi (pq_g C0))])), (wt, .inl (cI, 1003, .inl (zf (pz_tp (pq_t C0))))), (am, .inr (3, [.int (zi (pq_n T)), .ref aw, .ref av, .ref ax, .int (zi kk), .int (zi ka), .int (zi kb)])), (aw, .inl (cI, 8, .inl (zf (pq_w T)))), (av, .inl (cI, 8, .inl (zf (pq_v T)))), (ax, .inl (cI, 8, .inl (zf (pq_x T)))), (hh, .inr (6, [.ref mr, .ref ρ.1, .ref wk, .ref ρ.2.1.1, .ref ρ.2.2.1, .ref ρ.2.2.2.2.2.1, .int (zi (ms.length : Int)), .int (zi 0), .int (zi gv), .int (zi tn), .int (zi tb)])), (mr, .inl (cM, 12, .inr (.inr (.inr (.inr (pq_mad ms))))))] ++ (pq_rest cI cZ cT ρ ++ pq_pool cI (ms.eraseIdx j.toNat))) H := hP
    have hD : va_D A ([(wk, .inr (5, [.ref wt, .int (zi (pq_d C0)), .int (zi (pq_q C0)), .int (zi (pq_p C0)), .int (zi (pq_l C0)), .int (zi (pq_g C0))])), (wt, .inl (cI, 1003, .inl (zf (pz_tp (pq_t C0))))), (am, .inr (3, [.int (zi (pq_n T)), .ref aw, .ref av, .ref ax, .int (zi kk), .int (zi ka), .int (zi kb)])), (aw, .inl (cI, 8, .inl (zf (pq_w T)))), (av, .inl (cI, 8, .inl (zf (pq_v T)))), (ax, .inl (cI, 8, .inl (zf (pq_x T)))), (hh, .inr (6, [.ref mr, .ref ρ.1, .ref wk, .ref ρ.2.1.1, .ref ρ.2.2.1, .ref ρ.2.2.2.2.2.1, .int (zi (ms.length : Int)), .int (zi 0), .int (zi gv), .int (zi tn), .int (zi tb)])), (mr, .inl (cM, 12, .inr (.inr (.inr (.inr (pq_mad ms))))))] ++ (pq_rest cI cZ cT ρ ++ pq_pool cI (ms.eraseIdx j.toNat))) := hD
    refine W.widen (k := 0) (n := 0) (Nat.le_of_ble_eq_true rfl) (Nat.le_of_ble_eq_true rfl) ?_
    obtain rfl := hrq_4
    refine lv_astore (lv' := [(4, .ref am), (0, .ref hh), (1, .int (zi q)), (2, .int (zi k)), (3, .int (zi j))]) hx hb dX7_meanStop_19 hl (by decide) rfl (fun ls hl => ?_)
    refine lv_aload hx hb dX7_meanStop_21 (lv_at hl 0 rfl) ?_
    refine va_get (D := (dC, dI)) (ci := 3) (v := .int (zi kk)) (C := RX3) (T := TX3) (N := 7) hx hb hts hiX3 hown hK hP 2 rfl rfl 4 (by decide) (hts (.fieldLink RX7 151 "Haltingale$Machine" "kind" "I") (by decide +kernel)) (fun _ h9 => h9) rfl dX7_meanStop_23 ?_
    refine pz_if_ne (tgt := 40) hx hb (by omega) dX7_meanStop_26 (by decide) (fun c_5 => ?_) (fun c_5 => ?_)
    · have hP := hP.part (cx := [(wk, .inr (5, [.ref wt, .int (zi (pq_d C0)), .int (zi (pq_q C0)), .int (zi (pq_p C0)), .int (zi (pq_l C0)), .int (zi (pq_g C0))])), (wt, .inl (cI, 1003, .inl (zf (pz_tp (pq_t C0))))), (hh, .inr (6, [.ref mr, .ref ρ.1, .ref wk, .ref ρ.2.1.1, .ref ρ.2.2.1, .ref ρ.2.2.2.2.2.1, .int (zi (ms.length : Int)), .int (zi 0), .int (zi gv), .int (zi tn), .int (zi tb)])), (mr, .inl (cM, 12, .inr (.inr (.inr (.inr (pq_mad ms)))))), (am, .inr (3, [.int (zi (pq_n T)), .ref aw, .ref av, .ref ax, .int (zi kk), .int (zi ka), .int (zi kb)])), (aw, .inl (cI, 8, .inl (zf (pq_w T)))), (av, .inl (cI, 8, .inl (zf (pq_v T)))), (ax, .inl (cI, 8, .inl (zf (pq_x T))))]) [0, 1, 6, 7, 2, 3, 4, 5] rfl
      have hD := hD.part (cx := [(wk, .inr (5, [.ref wt, .int (zi (pq_d C0)), .int (zi (pq_q C0)), .int (zi (pq_p C0)), .int (zi (pq_l C0)), .int (zi (pq_g C0))])), (wt, .inl (cI, 1003, .inl (zf (pz_tp (pq_t C0))))), (hh, .inr (6, [.ref mr, .ref ρ.1, .ref wk, .ref ρ.2.1.1, .ref ρ.2.2.1, .ref ρ.2.2.2.2.2.1, .int (zi (ms.length : Int)), .int (zi 0), .int (zi gv), .int (zi tn), .int (zi tb)])), (mr, .inl (cM, 12, .inr (.inr (.inr (.inr (pq_mad ms)))))), (am, .inr (3, [.int (zi (pq_n T)), .ref aw, .ref av, .ref ax, .int (zi kk), .int (zi ka), .int (zi kb)])), (aw, .inl (cI, 8, .inl (zf (pq_w T)))), (av, .inl (cI, 8, .inl (zf (pq_v T)))), (ax, .inl (cI, 8, .inl (zf (pq_x T))))]) [0, 1, 6, 7, 2, 3, 4, 5] (by decide) rfl
      have hP : va_P (dC, dI) vwCl (([(wk, .inr (5, [.ref wt, .int (zi (pq_d C0)), .int (zi (pq_q C0)), .int (zi (pq_p C0)), .int (zi (pq_l C0)), .int (zi (pq_g C0))])), (wt, .inl (cI, 1003, .inl (zf (pz_tp (pq_t C0))))), (hh, .inr (6, [.ref mr, .ref ρ.1, .ref wk, .ref ρ.2.1.1, .ref ρ.2.2.1, .ref ρ.2.2.2.2.2.1, .int (zi (ms.length : Int)), .int (zi 0), .int (zi gv), .int (zi tn), .int (zi tb)])), (mr, .inl (cM, 12, .inr (.inr (.inr (.inr (pq_mad ms))))))] ++ pq_Mc cI (am, aw, av, ax, T, kk, ka, kb)) ++ (pq_rest cI cZ cT ρ ++ pq_pool cI (ms.eraseIdx j.toNat))) H := hP
      have hD : va_D A (([(wk, .inr (5, [.ref wt, .int (zi (pq_d C0)), .int (zi (pq_q C0)), .int (zi (pq_p C0)), .int (zi (pq_l C0)), .int (zi (pq_g C0))])), (wt, .inl (cI, 1003, .inl (zf (pz_tp (pq_t C0))))), (hh, .inr (6, [.ref mr, .ref ρ.1, .ref wk, .ref ρ.2.1.1, .ref ρ.2.2.1, .ref ρ.2.2.2.2.2.1, .int (zi (ms.length : Int)), .int (zi 0), .int (zi gv), .int (zi tn), .int (zi tb)])), (mr, .inl (cM, 12, .inr (.inr (.inr (.inr (pq_mad ms))))))] ++ pq_Mc cI (am, aw, av, ax, T, kk, ka, kb)) ++ (pq_rest cI cZ cT ρ ++ pq_pool cI (ms.eraseIdx j.toNat))) := hD
      have hP := pq_unfocusR hP (by omega)
      have hD := pq_unfocusRD hD (by omega)
      rw [pq_set_same hμ] at hP hD
      have hP : va_P (dC, dI) vwCl ([(wk, .inr (5, [.ref wt, .int (zi (pq_d C0)), .int (zi (pq_q C0)), .int (zi (pq_p C0)), .int (zi (pq_l C0)), .int (zi (pq_g C0))])), (wt, .inl (cI, 1003, .inl (zf (pz_tp (pq_t C0))))), (hh, .inr (6, [.ref mr, .ref ρ.1, .ref wk, .ref ρ.2.1.1, .ref ρ.2.2.1, .ref ρ.2.2.2.2.2.1, .int (zi (ms.length : Int)), .int (zi 0), .int (zi gv), .int (zi tn), .int (zi tb)])), (mr, .inl (cM, 12, .inr (.inr (.inr (.inr (pq_mad ms))))))] ++ (pq_rest cI cZ cT ρ ++ pq_pool cI ms)) H := hP
      have hD : va_D A ([(wk, .inr (5, [.ref wt, .int (zi (pq_d C0)), .int (zi (pq_q C0)), .int (zi (pq_p C0)), .int (zi (pq_l C0)), .int (zi (pq_g C0))])), (wt, .inl (cI, 1003, .inl (zf (pz_tp (pq_t C0))))), (hh, .inr (6, [.ref mr, .ref ρ.1, .ref wk, .ref ρ.2.1.1, .ref ρ.2.2.1, .ref ρ.2.2.2.2.2.1, .int (zi (ms.length : Int)), .int (zi 0), .int (zi gv), .int (zi tn), .int (zi tb)])), (mr, .inl (cM, 12, .inr (.inr (.inr (.inr (pq_mad ms))))))] ++ (pq_rest cI cZ cT ρ ++ pq_pool cI ms)) := hD
      refine pz_iinc (lv' := [(3, .int (zi (j + 1))), (4, .ref am), (0, .ref hh), (1, .int (zi q)), (2, .int (zi k))]) hx hb dX7_meanStop_40 hl (k := 4) rfl (by decide) rfl (fun ls hl => ?_)
      refine lv_goto (tgt := 6) hx hb dX7_meanStop_43 (by decide) ?_
      have hP := hP.part (cx := [(hh, .inr (6, [.ref mr, .ref ρ.1, .ref wk, .ref ρ.2.1.1, .ref ρ.2.2.1, .ref ρ.2.2.2.2.2.1, .int (zi (ms.length : Int)), .int (zi 0), .int (zi gv), .int (zi tn), .int (zi tb)])), (mr, .inl (cM, 12, .inr (.inr (.inr (.inr (pq_mad ms)))))), (wk, .inr (5, [.ref wt, .int (zi (pq_d C0)), .int (zi (pq_q C0)), .int (zi (pq_p C0)), .int (zi (pq_l C0)), .int (zi (pq_g C0))])), (wt, .inl (cI, 1003, .inl (zf (pz_tp (pq_t C0)))))]) [2, 3, 0, 1] rfl
      have hD := hD.part (cx := [(hh, .inr (6, [.ref mr, .ref ρ.1, .ref wk, .ref ρ.2.1.1, .ref ρ.2.2.1, .ref ρ.2.2.2.2.2.1, .int (zi (ms.length : Int)), .int (zi 0), .int (zi gv), .int (zi tn), .int (zi tb)])), (mr, .inl (cM, 12, .inr (.inr (.inr (.inr (pq_mad ms)))))), (wk, .inr (5, [.ref wt, .int (zi (pq_d C0)), .int (zi (pq_q C0)), .int (zi (pq_p C0)), .int (zi (pq_l C0)), .int (zi (pq_g C0))])), (wt, .inl (cI, 1003, .inl (zf (pz_tp (pq_t C0)))))]) [2, 3, 0, 1] (by decide) rfl
      exact ih_6 _ _ _ _ ⟨q, k, j + 1, rfl, (by first | assumption | omega | rfl), (by rw [pq_sa_f hj.1 hμ c_5]; exact hq), (by rw [pq_ck_f hj.1 hμ c_5]; exact hk), hP, hD, hS, lv_sub hl [2, 3, 4, 0] rfl⟩ (by omega)
    · refine lv_iload_n hx hb dX7_meanStop_29 rfl (lv_at hl 2 rfl) ?_
      refine lv_aload hx hb dX7_meanStop_30 (lv_at hl 0 rfl) ?_
      refine va_get (D := (dC, dI)) (ci := 3) (v := .int (zi ka)) (C := RX3) (T := TX3) (N := 7) hx hb hts hiX3 hown hK hP 2 rfl rfl 5 (by decide) (hts (.fieldLink RX7 194 "Haltingale$Machine" "a" "I") (by decide +kernel)) (fun _ h9 => h9) rfl dX7_meanStop_32 ?_
      refine pz_iadd hx hb dX7_meanStop_35 ?_
      refine lv_istore_n (lv' := [(1, .int (zi (q + ka))), (4, .ref am), (0, .ref hh), (2, .int (zi k)), (3, .int (zi j))]) hx hb dX7_meanStop_36 rfl hl (by decide) rfl (fun ls hl => ?_)
      refine pz_iinc (lv' := [(2, .int (zi (k + 1))), (1, .int (zi (q + ka))), (4, .ref am), (0, .ref hh), (3, .int (zi j))]) hx hb dX7_meanStop_37 hl (k := 3) rfl (by decide) rfl (fun ls hl => ?_)
      have hP := hP.part (cx := [(wk, .inr (5, [.ref wt, .int (zi (pq_d C0)), .int (zi (pq_q C0)), .int (zi (pq_p C0)), .int (zi (pq_l C0)), .int (zi (pq_g C0))])), (wt, .inl (cI, 1003, .inl (zf (pz_tp (pq_t C0))))), (hh, .inr (6, [.ref mr, .ref ρ.1, .ref wk, .ref ρ.2.1.1, .ref ρ.2.2.1, .ref ρ.2.2.2.2.2.1, .int (zi (ms.length : Int)), .int (zi 0), .int (zi gv), .int (zi tn), .int (zi tb)])), (mr, .inl (cM, 12, .inr (.inr (.inr (.inr (pq_mad ms)))))), (am, .inr (3, [.int (zi (pq_n T)), .ref aw, .ref av, .ref ax, .int (zi kk), .int (zi ka), .int (zi kb)])), (aw, .inl (cI, 8, .inl (zf (pq_w T)))), (av, .inl (cI, 8, .inl (zf (pq_v T)))), (ax, .inl (cI, 8, .inl (zf (pq_x T))))]) [0, 1, 6, 7, 2, 3, 4, 5] rfl
      have hD := hD.part (cx := [(wk, .inr (5, [.ref wt, .int (zi (pq_d C0)), .int (zi (pq_q C0)), .int (zi (pq_p C0)), .int (zi (pq_l C0)), .int (zi (pq_g C0))])), (wt, .inl (cI, 1003, .inl (zf (pz_tp (pq_t C0))))), (hh, .inr (6, [.ref mr, .ref ρ.1, .ref wk, .ref ρ.2.1.1, .ref ρ.2.2.1, .ref ρ.2.2.2.2.2.1, .int (zi (ms.length : Int)), .int (zi 0), .int (zi gv), .int (zi tn), .int (zi tb)])), (mr, .inl (cM, 12, .inr (.inr (.inr (.inr (pq_mad ms)))))), (am, .inr (3, [.int (zi (pq_n T)), .ref aw, .ref av, .ref ax, .int (zi kk), .int (zi ka), .int (zi kb)])), (aw, .inl (cI, 8, .inl (zf (pq_w T)))), (av, .inl (cI, 8, .inl (zf (pq_v T)))), (ax, .inl (cI, 8, .inl (zf (pq_x T))))]) [0, 1, 6, 7, 2, 3, 4, 5] (by decide) rfl
      have hP : va_P (dC, dI) vwCl (([(wk, .inr (5, [.ref wt, .int (zi (pq_d C0)), .int (zi (pq_q C0)), .int (zi (pq_p C0)), .int (zi (pq_l C0)), .int (zi (pq_g C0))])), (wt, .inl (cI, 1003, .inl (zf (pz_tp (pq_t C0))))), (hh, .inr (6, [.ref mr, .ref ρ.1, .ref wk, .ref ρ.2.1.1, .ref ρ.2.2.1, .ref ρ.2.2.2.2.2.1, .int (zi (ms.length : Int)), .int (zi 0), .int (zi gv), .int (zi tn), .int (zi tb)])), (mr, .inl (cM, 12, .inr (.inr (.inr (.inr (pq_mad ms))))))] ++ pq_Mc cI (am, aw, av, ax, T, kk, ka, kb)) ++ (pq_rest cI cZ cT ρ ++ pq_pool cI (ms.eraseIdx j.toNat))) H := hP
      have hD : va_D A (([(wk, .inr (5, [.ref wt, .int (zi (pq_d C0)), .int (zi (pq_q C0)), .int (zi (pq_p C0)), .int (zi (pq_l C0)), .int (zi (pq_g C0))])), (wt, .inl (cI, 1003, .inl (zf (pz_tp (pq_t C0))))), (hh, .inr (6, [.ref mr, .ref ρ.1, .ref wk, .ref ρ.2.1.1, .ref ρ.2.2.1, .ref ρ.2.2.2.2.2.1, .int (zi (ms.length : Int)), .int (zi 0), .int (zi gv), .int (zi tn), .int (zi tb)])), (mr, .inl (cM, 12, .inr (.inr (.inr (.inr (pq_mad ms))))))] ++ pq_Mc cI (am, aw, av, ax, T, kk, ka, kb)) ++ (pq_rest cI cZ cT ρ ++ pq_pool cI (ms.eraseIdx j.toNat))) := hD
      have hP := pq_unfocusR hP (by omega)
      have hD := pq_unfocusRD hD (by omega)
      rw [pq_set_same hμ] at hP hD
      have hP : va_P (dC, dI) vwCl ([(wk, .inr (5, [.ref wt, .int (zi (pq_d C0)), .int (zi (pq_q C0)), .int (zi (pq_p C0)), .int (zi (pq_l C0)), .int (zi (pq_g C0))])), (wt, .inl (cI, 1003, .inl (zf (pz_tp (pq_t C0))))), (hh, .inr (6, [.ref mr, .ref ρ.1, .ref wk, .ref ρ.2.1.1, .ref ρ.2.2.1, .ref ρ.2.2.2.2.2.1, .int (zi (ms.length : Int)), .int (zi 0), .int (zi gv), .int (zi tn), .int (zi tb)])), (mr, .inl (cM, 12, .inr (.inr (.inr (.inr (pq_mad ms))))))] ++ (pq_rest cI cZ cT ρ ++ pq_pool cI ms)) H := hP
      have hD : va_D A ([(wk, .inr (5, [.ref wt, .int (zi (pq_d C0)), .int (zi (pq_q C0)), .int (zi (pq_p C0)), .int (zi (pq_l C0)), .int (zi (pq_g C0))])), (wt, .inl (cI, 1003, .inl (zf (pz_tp (pq_t C0))))), (hh, .inr (6, [.ref mr, .ref ρ.1, .ref wk, .ref ρ.2.1.1, .ref ρ.2.2.1, .ref ρ.2.2.2.2.2.1, .int (zi (ms.length : Int)), .int (zi 0), .int (zi gv), .int (zi tn), .int (zi tb)])), (mr, .inl (cM, 12, .inr (.inr (.inr (.inr (pq_mad ms))))))] ++ (pq_rest cI cZ cT ρ ++ pq_pool cI ms)) := hD
      refine pz_iinc (lv' := [(3, .int (zi (j + 1))), (2, .int (zi (k + 1))), (1, .int (zi (q + ka))), (4, .ref am), (0, .ref hh)]) hx hb dX7_meanStop_40 hl (k := 4) rfl (by decide) rfl (fun ls hl => ?_)
      refine lv_goto (tgt := 6) hx hb dX7_meanStop_43 (by decide) ?_
      have hP := hP.part (cx := [(hh, .inr (6, [.ref mr, .ref ρ.1, .ref wk, .ref ρ.2.1.1, .ref ρ.2.2.1, .ref ρ.2.2.2.2.2.1, .int (zi (ms.length : Int)), .int (zi 0), .int (zi gv), .int (zi tn), .int (zi tb)])), (mr, .inl (cM, 12, .inr (.inr (.inr (.inr (pq_mad ms)))))), (wk, .inr (5, [.ref wt, .int (zi (pq_d C0)), .int (zi (pq_q C0)), .int (zi (pq_p C0)), .int (zi (pq_l C0)), .int (zi (pq_g C0))])), (wt, .inl (cI, 1003, .inl (zf (pz_tp (pq_t C0)))))]) [2, 3, 0, 1] rfl
      have hD := hD.part (cx := [(hh, .inr (6, [.ref mr, .ref ρ.1, .ref wk, .ref ρ.2.1.1, .ref ρ.2.2.1, .ref ρ.2.2.2.2.2.1, .int (zi (ms.length : Int)), .int (zi 0), .int (zi gv), .int (zi tn), .int (zi tb)])), (mr, .inl (cM, 12, .inr (.inr (.inr (.inr (pq_mad ms)))))), (wk, .inr (5, [.ref wt, .int (zi (pq_d C0)), .int (zi (pq_q C0)), .int (zi (pq_p C0)), .int (zi (pq_l C0)), .int (zi (pq_g C0))])), (wt, .inl (cI, 1003, .inl (zf (pz_tp (pq_t C0)))))]) [2, 3, 0, 1] (by decide) rfl
      exact ih_6 _ _ _ _ ⟨q + ka, k + 1, j + 1, rfl, (by first | assumption | omega | rfl), (by rw [pq_sa_t hj.1 hμ c_5, hq]), (by rw [pq_ck_t hj.1 hμ c_5, hk]), hP, hD, hS, lv_sub hl [4, 2, 1, 0] rfl⟩ (by omega)
