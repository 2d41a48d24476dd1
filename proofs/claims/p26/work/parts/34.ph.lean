/-! p26: one step more -/
theorem pq_ca_E {T : pq_T} {j y : Int} (h : pq_E T j) : pq_ca T j y = -1 := if_pos h
theorem pq_ca_0 {T : pq_T} {j : Int} (h : ¬ pq_E T j) : pq_ca T j 0 = pq_w T j.toNat := (if_neg h).trans (if_pos rfl)
theorem pq_ca_1 {T : pq_T} {j : Int} (h : ¬ pq_E T j) : pq_ca T j 1 = max (pq_v T j.toNat) 0 := (if_neg h).trans ((if_neg (by decide)).trans (if_pos rfl))
theorem pq_ca_2 {T : pq_T} {j : Int} (h : ¬ pq_E T j) : pq_ca T j 2 = pq_x T j.toNat := (if_neg h).trans ((if_neg (by decide)).trans (if_neg (by decide)))
theorem pq_ca_rg0 {T : pq_T} (hT : pq_ok T) (j : Int) : -1 ≤ pq_ca T j 0 ∧ pq_ca T j 0 ≤ 1 := by
  by_cases h : pq_E T j
  · rw [pq_ca_E h]; omega
  · rw [pq_ca_0 h]
    have := pq_nE hT h
    omega
def zs_c_L_isStep : List Cond := .code yL_isStep cL_isStep 15 (some .boolean) :: (([.code yX7_at cX7_at 5 (some .int), .code yX7_find cX7_find 3 (some (.object "Haltingale$Machine")), .fieldLink RX7 148 "Haltingale" "machineCount" "I", .fieldLink RX7 11 "Haltingale" "machines" "[LHaltingale$Machine;", .methodLink RX7 67 yX7_find, .instanceMethod yX7_find, .initialized RX7, .selects RX7 yX7_find yX7_find, .code yX7_isWithin cX7_isWithin 3 (some .boolean), .methodLink RX7 49 yX7_isWithin, .static yX7_isWithin, .code yX7_require cX7_require 1 none, .methodLink RX7 53 yX7_require, .static yX7_require, .fieldLink RX7 24 "Haltingale" "walk" "LHaltingale$Walk;", .code yX6_run cX6_run 4 none, .code yX6_begin cX6_begin 2 none, .fieldLink RX6 15 "Haltingale$Walk" "least" "I", .fieldLink RX6 19 "Haltingale$Walk" "greatest" "I", .fieldLink RX6 26 "Haltingale$Walk" "done" "I", .fieldLink RX6 29 "Haltingale$Walk" "state" "I", .fieldLink RX6 32 "Haltingale$Walk" "place" "I", .code yX6_put cX6_put 3 none, .fieldLink RX6 9 "Haltingale$Walk" "tape" "[I", .methodLink RX6 22 yX6_put, .instanceMethod yX6_put, .initialized RX6, .selects RX6 yX6_put yX6_put, .methodLink RX6 35 yX6_begin, .instanceMethod yX6_begin, .selects RX6 yX6_begin yX6_begin, .code yX6_step cX6_step 3 (some .boolean), .code yX6_read cX6_read 2 (some .int), .methodLink RX6 42 yX6_read, .instanceMethod yX6_read, .selects RX6 yX6_read yX6_read, .code yX6_hasStopped cX6_hasStopped 2 (some .boolean), .fieldLink RX6 73 "Haltingale$Machine" "states" "I", .methodLink RX6 46 yX6_hasStopped, .instanceMethod yX6_hasStopped, .selects RX6 yX6_hasStopped yX6_hasStopped, .code yX3_isEmpty cX3_isEmpty 2 (some .boolean), .fieldLink RX3 15 "Haltingale$Machine" "writes" "[I", .methodLink RX6 49 yX3_isEmpty, .instanceMethod yX3_isEmpty, .initialized RX3, .selects RX3 yX3_isEmpty yX3_isEmpty, .code yX3_writeOf cX3_writeOf 2 (some .int), .methodLink RX6 55 yX3_writeOf, .instanceMethod yX3_writeOf, .selects RX3 yX3_writeOf yX3_writeOf, .code yX3_moveOf cX3_moveOf 2 (some .int), .fieldLink RX3 19 "Haltingale$Machine" "moves" "[I", .methodLink RX6 58 yX3_moveOf, .instanceMethod yX3_moveOf, .selects RX3 yX3_moveOf yX3_moveOf, .code yX3_nextOf cX3_nextOf 2 (some .int), .fieldLink RX3 22 "Haltingale$Machine" "nexts" "[I", .methodLink RX6 61 yX3_nextOf, .instanceMethod yX3_nextOf, .selects RX3 yX3_nextOf yX3_nextOf, .methodLink RX6 64 Lib.Math.min.name, .static Lib.Math.min.name, .initialized "java/lang/Math", .code Lib.Math.min.name Lib.Math.min.code 2 (some .int), .methodLink RX6 70 Lib.Math.max.name, .static Lib.Math.max.name, .code Lib.Math.max.name Lib.Math.max.code 2 (some .int), .methodLink RX6 38 yX6_step, .instanceMethod yX6_step, .selects RX6 yX6_step yX6_step, .methodLink RX7 154 yX6_run, .instanceMethod yX6_run, .selects RX6 yX6_run yX6_run, .fieldLink RX7 161 "Haltingale$Walk" "done" "I", .fieldLink RX7 203 "Haltingale$Walk" "state" "I", .fieldLink RX7 206 "Haltingale$Walk" "place" "I", .code yX6_countOnes cX6_countOnes 3 (some .int), .methodLink RX7 209 yX6_countOnes, .instanceMethod yX6_countOnes, .selects RX6 yX6_countOnes yX6_countOnes, .code yX6_countRuns cX6_countRuns 3 (some .int), .methodLink RX7 212 yX6_countRuns, .instanceMethod yX6_countRuns, .selects RX6 yX6_countRuns yX6_countRuns, .fieldLink RX7 215 "Haltingale$Walk" "least" "I", .fieldLink RX7 218 "Haltingale$Walk" "greatest" "I", .code yX6_eighths cX6_eighths 2 (some .int), .methodLink RX6 80 yX6_countOnes, .methodLink RX7 221 yX6_eighths, .instanceMethod yX6_eighths, .selects RX6 yX6_eighths yX6_eighths, .methodLink RL 79 yX7_at, .instanceMethod yX7_at, .selects RX7 yX7_at yX7_at, .code yX7_symbol cX7_symbol 5 (some .int), .methodLink RX7 224 yX6_read, .methodLink RL 83 yX7_symbol, .instanceMethod yX7_symbol, .selects RX7 yX7_symbol yX7_symbol, .code yX7_ofMachine cX7_ofMachine 4 (some .int), .fieldLink RX7 107 "Haltingale$Machine" "states" "I", .code yX3_countEmpty cX3_countEmpty 3 (some .int), .code yX3_countCells cX3_countCells 1 (some .int), .fieldLink RX3 9 "Haltingale$Machine" "states" "I", .methodLink RX3 42 yX3_countCells, .instanceMethod yX3_countCells, .selects RX3 yX3_countCells yX3_countCells, .methodLink RX3 34 yX3_isEmpty, .methodLink RX7 98 yX3_countEmpty, .instanceMethod yX3_countEmpty, .selects RX3 yX3_countEmpty yX3_countEmpty, .fieldLink RX7 151 "Haltingale$Machine" "kind" "I", .fieldLink RX7 194 "Haltingale$Machine" "a" "I", .fieldLink RX7 197 "Haltingale$Machine" "b" "I", .code yX7_countWays cX7_countWays 2 (some .int), .code yX6_isHanging cX6_isHanging 2 (some .boolean), .code yX6_metCell cX6_metCell 1 (some .int), .methodLink RX6 76 yX6_metCell, .instanceMethod yX6_metCell, .selects RX6 yX6_metCell yX6_metCell, .methodLink RX7 326 yX6_isHanging, .instanceMethod yX6_isHanging, .selects RX6 yX6_isHanging yX6_isHanging, .code yX3_countFillings cX3_countFillings 3 (some .int), .methodLink RX3 55 Lib.Math.min.name, .code yX3_isEnd cX3_isEnd 2 (some .boolean), .methodLink RX3 38 yX3_nextOf, .methodLink RX3 46 yX3_isEnd, .instanceMethod yX3_isEnd, .selects RX3 yX3_isEnd yX3_isEnd, .methodLink RX3 49 Lib.Math.max.name, .methodLink RX7 329 yX3_countFillings, .instanceMethod yX3_countFillings, .selects RX3 yX3_countFillings yX3_countFillings, .methodLink RX7 104 yX7_countWays, .instanceMethod yX7_countWays, .selects RX7 yX7_countWays yX7_countWays, .code yX7_asItStops cX7_asItStops 3 (some .int), .methodLink RX7 158 yX6_hasStopped, .methodLink RX7 332 Lib.Math.abs.name, .static Lib.Math.abs.name, .code Lib.Math.abs.name Lib.Math.abs.code 1 (some .int), .methodLink RX7 200 yX7_asItStops, .instanceMethod yX7_asItStops, .selects RX7 yX7_asItStops yX7_asItStops, .methodLink RL 36 yX7_ofMachine, .instanceMethod yX7_ofMachine, .selects RX7 yX7_ofMachine yX7_ofMachine, .code yX7_cell cX7_cell 7 (some .int), .code yX7_findCell cX7_findCell 3 (some .int), .methodLink RX7 71 yX7_findCell, .static yX7_findCell, .methodLink RX7 79 yX3_isEmpty, .methodLink RX7 178 yX3_writeOf, .methodLink RX7 182 yX3_moveOf, .methodLink RX7 185 Lib.Math.max.name, .methodLink RX7 191 yX3_nextOf, .methodLink RL 49 yX7_cell, .instanceMethod yX7_cell, .selects RX7 yX7_cell yX7_cell, .methodLink RL 86 Lib.Math.min.name, .methodLink RL 91 Lib.Math.max.name] : List Cond) ++ wsX70 ++ wsX60 ++ wsX30)
set_option maxHeartbeats 4000000 in
set_option maxRecDepth 100000 in
theorem c_L_isStep (l : Launch) (dC : Nat → ClassId) (dI : Nat → Nat → Nat) (cI cZ cM cT : ClassId) (sz : Nat) (hh : Nat) (ms : List pq_M) (gv : Int) (tn : Int) (tb : Int) (κ : pq_S) (i : Int) (am : Nat) (aw : Nat) (av : Nat) (ax : Nat) (T : pq_T) (kk : Int) (ka : Int) (kb : Int) (y : Int) (hms : pq_mo ms) (hκ : pq_Sok κ) (hi0 : 0 ≤ i) (hμ : ms[i.toNat]? = some (am, aw, av, ax, T, kk, ka, kb)) (hy : 0 ≤ y ∧ y ≤ 200) : Met l yL_isStep zs_c_L_isStep ({ frames := 5, cells := 0, slots := 0, locals := 112 }) (va_Pc [.ref hh, .int (zi i), .int (zi y)] (fun U => U.heap.size = sz ∧ va_P (dC, dI) vwCl ([] ++ (pq_WD cI cZ cM cT hh ms gv tn tb κ)) U.heap ∧ va_K (dC, dI) vwCl (zT4 cI cZ cM cT) U ∧ va_D (fun _ => True) ([] ++ (pq_WD cI cZ cM cT hh ms gv tn tb κ)))) (va_Qi (fun (r : Int32) (_ : Unit) => r = zi 1) (fun _ t => ∃ (κ1 : pq_S), (pq_Sok κ1) ∧ va_P (dC, dI) vwCl ([] ++ (pq_WD cI cZ cM cT hh ms gv tn tb κ1)) t.heap ∧ va_K (dC, dI) vwCl (zT4 cI cZ cM cT) t ∧ va_D (va_A ([] ++ (pq_WD cI cZ cM cT hh ms gv tn tb κ)) sz) ([] ++ (pq_WD cI cZ cM cT hh ms gv tn tb κ1))) (va_A ([] ++ (pq_WD cI cZ cM cT hh ms gv tn tb κ)) sz)) 0 0 (va_A ([] ++ (pq_WD cI cZ cM cT hh ms gv tn tb κ)) sz) := by
  refine Met.ofW (cc := cL_isStep) (maxL := 15) (ret := (some .boolean)) (by decide) rfl ?_
  intro p e s m args below meth c s₁ B hml hv
  obtain ⟨rfl, hsz, hP, hK, hD0⟩ := hv
  have hx := B.exec
  have hb := B.bytes
  have hr := B.returns
  have hts := atoms_spec (ws := zs_c_L_isStep) B.pre
  have hown : s.vm.findClass RL = some m.cls := findClass_of_methodNamed B.named
  have hlocks := B.notSynchronized
  subst hsz
  have hD := hD0.self (sz := s.heap.size)
  generalize hAe : va_A ([] ++ (pq_WD cI cZ cM cT hh ms gv tn tb κ)) s.heap.size = A at hD ⊢
  have hA : ∀ q : Nat, s.heap.size ≤ q → A q := fun q h => by rw [← hAe]; exact Or.inr h
  have hS : va_S A s.heap s.heap [] := va_S.rf
  have hl := lv_entry ([.ref hh, .int (zi i), .int (zi y)]) (n := 15) (Nat.le_of_ble_eq_true rfl)
  rw [lg_entry_eq]
  generalize (lg_sl ([.ref hh, .int (zi i), .int (zi y)]) ++ List.replicate (15 - (lg_sl ([.ref hh, .int (zi i), .int (zi y)])).length) Slot.unset).toArray = ls at hl ⊢
  have hl : lv_has ls 15 [(0, .ref hh), (1, .int (zi i)), (2, .int (zi y))] := hl
  have hok : pq_ok T := (pq_mo_at hms hμ).1
  have hn := hok.1
  have hwf := pq_wf_r hok y.toNat
  have hrg := pq_rg hok (k := y.toNat) (by omega)
  have hrg1 := pq_rg hok (k := (y + 1).toNat) (by omega)
  have h01 := hwf.2.1 (pq_p (pq_r T y.toNat))
  have hdle := pq_d_le T y.toNat
  have hs1 := (pq_r_s T hy.1).symm
  have hob := pq_ones_bd hwf
  have hob1 := pq_ones_bd (pq_wf_r hok (y + 1).toNat)
  have hrb := pq_runs_bd hwf
  have hcar := pq_ca_rg0 hok (pq_m (pq_r T y.toNat))
  have heig : pq_eig (pq_r T y.toNat) = 8 * pq_ones (pq_r T y.toNat) / (pq_g (pq_r T y.toNat) - pq_l (pq_r T y.toNat) + 1) := rfl
  have heb : 0 ≤ 8 * pq_ones (pq_r T y.toNat) / (pq_g (pq_r T y.toNat) - pq_l (pq_r T y.toNat) + 1) ∧ 8 * pq_ones (pq_r T y.toNat) / (pq_g (pq_r T y.toNat) - pq_l (pq_r T y.toNat) + 1) ≤ 8 := ⟨Int.ediv_nonneg (by omega) (by omega), Int.ediv_le_of_le_mul (by omega) (by omega)⟩
  refine lv_aload_n hx hb dL_isStep_0 rfl (lv_at hl 0 rfl) ?_
  refine lv_iload_n hx hb dL_isStep_1 rfl (lv_at hl 1 rfl) ?_
  refine lv_iload_n hx hb dL_isStep_2 rfl (lv_at hl 2 rfl) ?_
  refine lv_iconst (v := zi 0) hx hb dL_isStep_3 (by decide) ?_
  have hPc := hP.part (cx := []) [] rfl
  have hDc := hD.part (cx := []) [] (by decide) rfl
  have hFc := va_freeP (cx := []) hD hS hA [] rfl
  refine va_calli (va_runV (As := [.int (zi i), .int (zi y), .int (zi 0)]) (rest := []) ⟨hx, hb, hml, hown, hts⟩ (c_X7_at l dC dI cI cZ cM cT s.heap.size hh ms gv tn tb κ i am aw av ax T kk ka kb y 0 (by first | assumption | omega | rfl) (by first | assumption | omega | rfl) (by first | assumption | omega | rfl) hμ (by first | assumption | omega | rfl) (by first | assumption | omega | rfl)) (cwV 3 hts (goodIn_of _ (by decide +kernel)) rfl rfl rfl (by decide +kernel) ⟨Nat.le_of_ble_eq_true rfl, Nat.le_of_ble_eq_true rfl⟩) ⟨fun a U g mk q => by obtain ⟨q0, q1, qP, qK, qD⟩ := q; exact ⟨q0, q1, qP, va_K.moved (u := U) (U := U.calling g mk a) (Vm.Alike.refl U.vm) qK, qD⟩, va_recv hK hPc (ci := 6) (q0 := 0) rfl rfl, fun U hU hW => ⟨rfl, by rw [hU], by rw [hU]; exact hPc, va_K.moved hW.alike hK, hDc.weaken (fun _ _ _ _ => trivial)⟩⟩ rfl rfl hl.1 rfl (lv_room (Nat.le_of_ble_eq_true rfl)) dL_isStep_4 ⟨Nat.le_of_ble_eq_true rfl, Nat.le_of_ble_eq_true rfl⟩) hS (fun q _ h => hFc q h) hFc (fun r_1 u t H1 locs ht hvm hw hB hz1 hk1 hS => ?_)
  obtain ⟨κ1_2, hz_3, hP1, hK1, hD1⟩ := hB
  rw [ht] at hP1
  obtain ⟨hP, hD⟩ := va_joinP (wr := []) (rx := []) (pl1 := (pq_WD cI cZ cM cT hh ms gv tn tb κ1_2)) hP hD [] [] rfl rfl (by decide) (by decide) hk1 hFc hP1 hD1
  generalize H1 = H at hP hS ⊢
  have hP : va_P (dC, dI) vwCl ([] ++ (pq_WD cI cZ cM cT hh ms gv tn tb κ1_2)) H := hP
  have hD : va_D A ([] ++ (pq_WD cI cZ cM cT hh ms gv tn tb κ1_2)) := hD
  refine W.widen (k := 0) (n := 0) (Nat.le_of_ble_eq_true rfl) (Nat.le_of_ble_eq_true rfl) ?_
  obtain rfl : r_1 = zi (pq_av (pq_r T y.toNat) (0 : Int)) := hw
  refine pz_top (y := zi (pq_d (pq_r T y.toNat))) (congrArg zi (rfl)) ?_
  refine lv_istore_n (lv' := [(3, .int (zi (pq_d (pq_r T y.toNat)))), (0, .ref hh), (1, .int (zi i)), (2, .int (zi y))]) hx hb dL_isStep_7 rfl hl (by decide) rfl (fun ls hl => ?_)
  refine lv_aload_n hx hb dL_isStep_8 rfl (lv_at hl 1 rfl) ?_
  refine lv_iload_n hx hb dL_isStep_9 rfl (lv_at hl 2 rfl) ?_
  refine lv_iload_n hx hb dL_isStep_10 rfl (lv_at hl 3 rfl) ?_
  refine lv_iconst (v := zi 1) hx hb dL_isStep_11 (by decide) ?_
  have hPc := hP.part (cx := []) [] rfl
  have hDc := hD.part (cx := []) [] (by decide) rfl
  have hFc := va_freeP (cx := []) hD hS hA [] rfl
  refine va_calli (va_runV (As := [.int (zi i), .int (zi y), .int (zi 1)]) (rest := []) ⟨hx, hb, hml, hown, hts⟩ (c_X7_at l dC dI cI cZ cM cT H.size hh ms gv tn tb κ1_2 i am aw av ax T kk ka kb y 1 (by first | assumption | omega | rfl) hz_3 (by first | assumption | omega | rfl) hμ (by first | assumption | omega | rfl) (by first | assumption | omega | rfl)) (cwV 3 hts (goodIn_of _ (by decide +kernel)) rfl rfl rfl (by decide +kernel) ⟨Nat.le_of_ble_eq_true rfl, Nat.le_of_ble_eq_true rfl⟩) ⟨fun a U g mk q => by obtain ⟨q0, q1, qP, qK, qD⟩ := q; exact ⟨q0, q1, qP, va_K.moved (u := U) (U := U.calling g mk a) (Vm.Alike.refl U.vm) qK, qD⟩, va_recv hK hPc (ci := 6) (q0 := 0) rfl rfl, fun U hU hW => ⟨rfl, by rw [hU], by rw [hU]; exact hPc, va_K.moved hW.alike hK, hDc.weaken (fun _ _ _ _ => trivial)⟩⟩ rfl rfl hl.1 rfl (lv_room (Nat.le_of_ble_eq_true rfl)) dL_isStep_12 ⟨Nat.le_of_ble_eq_true rfl, Nat.le_of_ble_eq_true rfl⟩) hS (fun q _ h => hFc q h) hFc (fun r_4 u t H1 locs ht hvm hw hB hz1 hk1 hS => ?_)
  obtain ⟨κ1_5, hz_6, hP1, hK1, hD1⟩ := hB
  rw [ht] at hP1
  obtain ⟨hP, hD⟩ := va_joinP (wr := []) (rx := []) (pl1 := (pq_WD cI cZ cM cT hh ms gv tn tb κ1_5)) hP hD [] [] rfl rfl (by decide) (by decide) hk1 hFc hP1 hD1
  generalize H1 = H at hP hS ⊢
  have hP : va_P (dC, dI) vwCl ([] ++ (pq_WD cI cZ cM cT hh ms gv tn tb κ1_5)) H := hP
  have hD : va_D A ([] ++ (pq_WD cI cZ cM cT hh ms gv tn tb κ1_5)) := hD
  refine W.widen (k := 0) (n := 0) (Nat.le_of_ble_eq_true rfl) (Nat.le_of_ble_eq_true rfl) ?_
  obtain rfl : r_4 = zi (pq_av (pq_r T y.toNat) (1 : Int)) := hw
  refine pz_top (y := zi (pq_q (pq_r T y.toNat))) (congrArg zi (rfl)) ?_
  refine lv_istore (lv' := [(4, .int (zi (pq_q (pq_r T y.toNat)))), (3, .int (zi (pq_d (pq_r T y.toNat)))), (0, .ref hh), (1, .int (zi i)), (2, .int (zi y))]) hx hb dL_isStep_15 hl (by decide) rfl (fun ls hl => ?_)
  refine lv_aload_n hx hb dL_isStep_17 rfl (lv_at hl 2 rfl) ?_
  refine lv_iload_n hx hb dL_isStep_18 rfl (lv_at hl 3 rfl) ?_
  refine lv_iload_n hx hb dL_isStep_19 rfl (lv_at hl 4 rfl) ?_
  refine lv_iconst (v := zi 2) hx hb dL_isStep_20 (by decide) ?_
  have hPc := hP.part (cx := []) [] rfl
  have hDc := hD.part (cx := []) [] (by decide) rfl
  have hFc := va_freeP (cx := []) hD hS hA [] rfl
  refine va_calli (va_runV (As := [.int (zi i), .int (zi y), .int (zi 2)]) (rest := []) ⟨hx, hb, hml, hown, hts⟩ (c_X7_at l dC dI cI cZ cM cT H.size hh ms gv tn tb κ1_5 i am aw av ax T kk ka kb y 2 (by first | assumption | omega | rfl) hz_6 (by first | assumption | omega | rfl) hμ (by first | assumption | omega | rfl) (by first | assumption | omega | rfl)) (cwV 3 hts (goodIn_of _ (by decide +kernel)) rfl rfl rfl (by decide +kernel) ⟨Nat.le_of_ble_eq_true rfl, Nat.le_of_ble_eq_true rfl⟩) ⟨fun a U g mk q => by obtain ⟨q0, q1, qP, qK, qD⟩ := q; exact ⟨q0, q1, qP, va_K.moved (u := U) (U := U.calling g mk a) (Vm.Alike.refl U.vm) qK, qD⟩, va_recv hK hPc (ci := 6) (q0 := 0) rfl rfl, fun U hU hW => ⟨rfl, by rw [hU], by rw [hU]; exact hPc, va_K.moved hW.alike hK, hDc.weaken (fun _ _ _ _ => trivial)⟩⟩ rfl rfl hl.1 rfl (lv_room (Nat.le_of_ble_eq_true rfl)) dL_isStep_21 ⟨Nat.le_of_ble_eq_true rfl, Nat.le_of_ble_eq_true rfl⟩) hS (fun q _ h => hFc q h) hFc (fun r_7 u t H1 locs ht hvm hw hB hz1 hk1 hS => ?_)
  obtain ⟨κ1_8, hz_9, hP1, hK1, hD1⟩ := hB
  rw [ht] at hP1
  obtain ⟨hP, hD⟩ := va_joinP (wr := []) (rx := []) (pl1 := (pq_WD cI cZ cM cT hh ms gv tn tb κ1_8)) hP hD [] [] rfl rfl (by decide) (by decide) hk1 hFc hP1 hD1
  generalize H1 = H at hP hS ⊢
  have hP : va_P (dC, dI) vwCl ([] ++ (pq_WD cI cZ cM cT hh ms gv tn tb κ1_8)) H := hP
  have hD : va_D A ([] ++ (pq_WD cI cZ cM cT hh ms gv tn tb κ1_8)) := hD
  refine W.widen (k := 0) (n := 0) (Nat.le_of_ble_eq_true rfl) (Nat.le_of_ble_eq_true rfl) ?_
  obtain rfl : r_7 = zi (pq_av (pq_r T y.toNat) (2 : Int)) := hw
  refine pz_top (y := zi (pq_p (pq_r T y.toNat))) (congrArg zi (rfl)) ?_
  refine lv_istore (lv' := [(5, .int (zi (pq_p (pq_r T y.toNat)))), (4, .int (zi (pq_q (pq_r T y.toNat)))), (3, .int (zi (pq_d (pq_r T y.toNat)))), (0, .ref hh), (1, .int (zi i)), (2, .int (zi y))]) hx hb dL_isStep_24 hl (by decide) rfl (fun ls hl => ?_)
  refine lv_aload_n hx hb dL_isStep_26 rfl (lv_at hl 3 rfl) ?_
  refine lv_iload_n hx hb dL_isStep_27 rfl (lv_at hl 4 rfl) ?_
  refine lv_iload_n hx hb dL_isStep_28 rfl (lv_at hl 5 rfl) ?_
  refine lv_iconst (v := zi 1) hx hb dL_isStep_29 (by decide) ?_
  refine pz_iadd hx hb dL_isStep_30 ?_
  refine lv_iconst (v := zi 2) hx hb dL_isStep_31 (by decide) ?_
  have hPc := hP.part (cx := []) [] rfl
  have hDc := hD.part (cx := []) [] (by decide) rfl
  have hFc := va_freeP (cx := []) hD hS hA [] rfl
  refine va_calli (va_runV (As := [.int (zi i), .int (zi (y + 1)), .int (zi 2)]) (rest := []) ⟨hx, hb, hml, hown, hts⟩ (c_X7_at l dC dI cI cZ cM cT H.size hh ms gv tn tb κ1_8 i am aw av ax T kk ka kb (y + 1) 2 (by first | assumption | omega | rfl) hz_9 (by first | assumption | omega | rfl) hμ (by first | assumption | omega | rfl) (by first | assumption | omega | rfl)) (cwV 3 hts (goodIn_of _ (by decide +kernel)) rfl rfl rfl (by decide +kernel) ⟨Nat.le_of_ble_eq_true rfl, Nat.le_of_ble_eq_true rfl⟩) ⟨fun a U g mk q => by obtain ⟨q0, q1, qP, qK, qD⟩ := q; exact ⟨q0, q1, qP, va_K.moved (u := U) (U := U.calling g mk a) (Vm.Alike.refl U.vm) qK, qD⟩, va_recv hK hPc (ci := 6) (q0 := 0) rfl rfl, fun U hU hW => ⟨rfl, by rw [hU], by rw [hU]; exact hPc, va_K.moved hW.alike hK, hDc.weaken (fun _ _ _ _ => trivial)⟩⟩ rfl rfl hl.1 rfl (lv_room (Nat.le_of_ble_eq_true rfl)) dL_isStep_32 ⟨Nat.le_of_ble_eq_true rfl, Nat.le_of_ble_eq_true rfl⟩) hS (fun q _ h => hFc q h) hFc (fun r_10 u t H1 locs ht hvm hw hB hz1 hk1 hS => ?_)
  obtain ⟨κ1_11, hz_12, hP1, hK1, hD1⟩ := hB
  rw [ht] at hP1
  obtain ⟨hP, hD⟩ := va_joinP (wr := []) (rx := []) (pl1 := (pq_WD cI cZ cM cT hh ms gv tn tb κ1_11)) hP hD [] [] rfl rfl (by decide) (by decide) hk1 hFc hP1 hD1
  generalize H1 = H at hP hS ⊢
  have hP : va_P (dC, dI) vwCl ([] ++ (pq_WD cI cZ cM cT hh ms gv tn tb κ1_11)) H := hP
  have hD : va_D A ([] ++ (pq_WD cI cZ cM cT hh ms gv tn tb κ1_11)) := hD
  refine W.widen (k := 0) (n := 0) (Nat.le_of_ble_eq_true rfl) (Nat.le_of_ble_eq_true rfl) ?_
  obtain rfl : r_10 = zi (pq_av (pq_r T (y + 1).toNat) (2 : Int)) := hw
  refine pz_top (y := zi (pq_p (pq_r T (y + 1).toNat))) (congrArg zi (rfl)) ?_
  refine lv_istore (lv' := [(6, .int (zi (pq_p (pq_r T (y + 1).toNat)))), (5, .int (zi (pq_p (pq_r T y.toNat)))), (4, .int (zi (pq_q (pq_r T y.toNat)))), (3, .int (zi (pq_d (pq_r T y.toNat)))), (0, .ref hh), (1, .int (zi i)), (2, .int (zi y))]) hx hb dL_isStep_35 hl (by decide) rfl (fun ls hl => ?_)
  refine lv_aload_n hx hb dL_isStep_37 rfl (lv_at hl 4 rfl) ?_
  refine lv_iload_n hx hb dL_isStep_38 rfl (lv_at hl 5 rfl) ?_
  refine lv_iload_n hx hb dL_isStep_39 rfl (lv_at hl 6 rfl) ?_
  refine lv_iload hx hb dL_isStep_40 (lv_at hl 1 rfl) ?_
  have hPc := hP.part (cx := []) [] rfl
  have hDc := hD.part (cx := []) [] (by decide) rfl
  have hFc := va_freeP (cx := []) hD hS hA [] rfl
  refine va_calli (va_runV (As := [.int (zi i), .int (zi y), .int (zi (pq_p (pq_r T y.toNat)))]) (rest := []) ⟨hx, hb, hml, hown, hts⟩ (c_X7_symbol l dC dI cI cZ cM cT H.size hh ms gv tn tb κ1_11 i am aw av ax T kk ka kb y (pq_p (pq_r T y.toNat)) (by first | assumption | omega | rfl) hz_12 (by first | assumption | omega | rfl) hμ (by first | assumption | omega | rfl) (by first | assumption | omega | rfl)) (cwV 3 hts (goodIn_of _ (by decide +kernel)) rfl rfl rfl (by decide +kernel) ⟨Nat.le_of_ble_eq_true rfl, Nat.le_of_ble_eq_true rfl⟩) ⟨fun a U g mk q => by obtain ⟨q0, q1, qP, qK, qD⟩ := q; exact ⟨q0, q1, qP, va_K.moved (u := U) (U := U.calling g mk a) (Vm.Alike.refl U.vm) qK, qD⟩, va_recv hK hPc (ci := 6) (q0 := 0) rfl rfl, fun U hU hW => ⟨rfl, by rw [hU], by rw [hU]; exact hPc, va_K.moved hW.alike hK, hDc.weaken (fun _ _ _ _ => trivial)⟩⟩ rfl rfl hl.1 rfl (lv_room (Nat.le_of_ble_eq_true rfl)) dL_isStep_42 ⟨Nat.le_of_ble_eq_true rfl, Nat.le_of_ble_eq_true rfl⟩) hS (fun q _ h => hFc q h) hFc (fun r_13 u t H1 locs ht hvm hw hB hz1 hk1 hS => ?_)
  obtain ⟨κ1_14, hz_15, hP1, hK1, hD1⟩ := hB
  rw [ht] at hP1
  obtain ⟨hP, hD⟩ := va_joinP (wr := []) (rx := []) (pl1 := (pq_WD cI cZ cM cT hh ms gv tn tb κ1_14)) hP hD [] [] rfl rfl (by decide) (by decide) hk1 hFc hP1 hD1
  generalize H1 = H at hP hS ⊢
  have hP : va_P (dC, dI) vwCl ([] ++ (pq_WD cI cZ cM cT hh ms gv tn tb κ1_14)) H := hP
  have hD : va_D A ([] ++ (pq_WD cI cZ cM cT hh ms gv tn tb κ1_14)) := hD
  refine W.widen (k := 0) (n := 0) (Nat.le_of_ble_eq_true rfl) (Nat.le_of_ble_eq_true rfl) ?_
  obtain rfl : r_13 = zi (pq_t (pq_r T y.toNat) (pq_p (pq_r T y.toNat))) := hw
  refine pz_top (y := zi (pq_t (pq_r T y.toNat) (pq_p (pq_r T y.toNat)))) (congrArg zi (rfl)) ?_
  refine lv_istore (lv' := [(7, .int (zi (pq_t (pq_r T y.toNat) (pq_p (pq_r T y.toNat))))), (6, .int (zi (pq_p (pq_r T (y + 1).toNat)))), (5, .int (zi (pq_p (pq_r T y.toNat)))), (4, .int (zi (pq_q (pq_r T y.toNat)))), (3, .int (zi (pq_d (pq_r T y.toNat)))), (0, .ref hh), (1, .int (zi i)), (2, .int (zi y))]) hx hb dL_isStep_45 hl (by decide) rfl (fun ls hl => ?_)
  refine lv_iload_n hx hb dL_isStep_47 rfl (lv_at hl 4 rfl) ?_
  refine lv_iload_n hx hb dL_isStep_48 rfl (lv_at hl 7 rfl) ?_
  refine pz_icmp_ne (tgt := 80) hx hb (by omega) dL_isStep_49 (by decide) (fun c_16 => ?_) (fun c_16 => ?_)
  · refine lv_iconst (v := zi 0) hx hb dL_isStep_80 (by decide) ?_
    have hno : ¬ pq_on T (pq_r T y.toNat) := fun h => c_16 (by have := pq_on_d (k := y.toNat) (fun i hi => pq_all h i (by omega)); omega)
    have hoff : pq_r T (y + 1).toNat = (pq_r T y.toNat) := hs1.trans (pq_nx_off hno)
    have hp1 : pq_p (pq_r T (y + 1).toNat) = pq_p (pq_r T y.toNat) := by rw [hoff]
    refine lv_istore (lv' := [(8, .int (zi 0)), (7, .int (zi (pq_t (pq_r T y.toNat) (pq_p (pq_r T y.toNat))))), (6, .int (zi (pq_p (pq_r T (y + 1).toNat)))), (5, .int (zi (pq_p (pq_r T y.toNat)))), (4, .int (zi (pq_q (pq_r T y.toNat)))), (3, .int (zi (pq_d (pq_r T y.toNat)))), (0, .ref hh), (1, .int (zi i)), (2, .int (zi y))]) hx hb dL_isStep_81 hl (by decide) rfl (fun ls hl => ?_)
    refine lv_aload_n hx hb dL_isStep_83 rfl (lv_at hl 6 rfl) ?_
    refine lv_iload_n hx hb dL_isStep_84 rfl (lv_at hl 7 rfl) ?_
    refine lv_iload_n hx hb dL_isStep_85 rfl (lv_at hl 8 rfl) ?_
    refine lv_iconst (v := zi 1) hx hb dL_isStep_86 (by decide) ?_
    refine pz_iadd hx hb dL_isStep_87 ?_
    refine lv_iconst (v := zi 0) hx hb dL_isStep_88 (by decide) ?_
    have hPc := hP.part (cx := []) [] rfl
    have hDc := hD.part (cx := []) [] (by decide) rfl
    have hFc := va_freeP (cx := []) hD hS hA [] rfl
    refine va_calli (va_runV (As := [.int (zi i), .int (zi (y + 1)), .int (zi 0)]) (rest := []) ⟨hx, hb, hml, hown, hts⟩ (c_X7_at l dC dI cI cZ cM cT H.size hh ms gv tn tb κ1_14 i am aw av ax T kk ka kb (y + 1) 0 (by first | assumption | omega | rfl) hz_15 (by first | assumption | omega | rfl) hμ (by first | assumption | omega | rfl) (by first | assumption | omega | rfl)) (cwV 3 hts (goodIn_of _ (by decide +kernel)) rfl rfl rfl (by decide +kernel) ⟨Nat.le_of_ble_eq_true rfl, Nat.le_of_ble_eq_true rfl⟩) ⟨fun a U g mk q => by obtain ⟨q0, q1, qP, qK, qD⟩ := q; exact ⟨q0, q1, qP, va_K.moved (u := U) (U := U.calling g mk a) (Vm.Alike.refl U.vm) qK, qD⟩, va_recv hK hPc (ci := 6) (q0 := 0) rfl rfl, fun U hU hW => ⟨rfl, by rw [hU], by rw [hU]; exact hPc, va_K.moved hW.alike hK, hDc.weaken (fun _ _ _ _ => trivial)⟩⟩ rfl rfl hl.1 rfl (lv_room (Nat.le_of_ble_eq_true rfl)) dL_isStep_89 ⟨Nat.le_of_ble_eq_true rfl, Nat.le_of_ble_eq_true rfl⟩) hS (fun q _ h => hFc q h) hFc (fun r_17 u t H1 locs ht hvm hw hB hz1 hk1 hS => ?_)
    obtain ⟨κ1_18, hz_19, hP1, hK1, hD1⟩ := hB
    rw [ht] at hP1
    obtain ⟨hP, hD⟩ := va_joinP (wr := []) (rx := []) (pl1 := (pq_WD cI cZ cM cT hh ms gv tn tb κ1_18)) hP hD [] [] rfl rfl (by decide) (by decide) hk1 hFc hP1 hD1
    generalize H1 = H at hP hS ⊢
    have hP : va_P (dC, dI) vwCl ([] ++ (pq_WD cI cZ cM cT hh ms gv tn tb κ1_18)) H := hP
    have hD : va_D A ([] ++ (pq_WD cI cZ cM cT hh ms gv tn tb κ1_18)) := hD
    refine W.widen (k := 0) (n := 0) (Nat.le_of_ble_eq_true rfl) (Nat.le_of_ble_eq_true rfl) ?_
    obtain rfl : r_17 = zi (pq_av (pq_r T (y + 1).toNat) (0 : Int)) := hw
    refine pz_top (y := zi (pq_d (pq_r T y.toNat))) (congrArg zi ((show pq_av (pq_r T (y + 1).toNat) 0 = pq_d (pq_r T (y + 1).toNat) from rfl).trans (by rw [hoff]))) ?_
    refine lv_iload_n hx hb dL_isStep_92 rfl (lv_at hl 5 rfl) ?_
    refine lv_iload hx hb dL_isStep_93 (lv_at hl 0 rfl) ?_
    refine pz_if_eq (tgt := 102) hx hb (by omega) dL_isStep_95 (by decide) (fun c_20 => ?_) (fun c_20 => ?_)
    · refine lv_iconst (v := zi 0) hx hb dL_isStep_102 (by decide) ?_
      refine pz_iadd hx hb dL_isStep_103 ?_
      refine pz_icmp_eq (tgt := 109) hx hb (by omega) dL_isStep_104 (by decide) (fun c_21 => ?_) (fun c_21 => ?_)
      · refine lv_iload hx hb dL_isStep_109 (lv_at hl 0 rfl) ?_
        refine pz_if_ne (tgt := 160) hx hb (by omega) dL_isStep_111 (by decide) (fun c_22 => ?_) (fun c_22 => ?_)
        · exact absurd c_22 (by omega)
        · refine lv_iload hx hb dL_isStep_114 (lv_at hl 2 rfl) ?_
          refine lv_iload hx hb dL_isStep_116 (lv_at hl 3 rfl) ?_
          refine pz_icmp_ne (tgt := 158) hx hb (by omega) dL_isStep_118 (by decide) (fun c_23 => ?_) (fun c_23 => ?_)
          · exact (c_23 (by omega)).elim
          · refine lv_aload_n hx hb dL_isStep_121 rfl (lv_at hl 6 rfl) ?_
            refine lv_iload_n hx hb dL_isStep_122 rfl (lv_at hl 7 rfl) ?_
            refine lv_iload_n hx hb dL_isStep_123 rfl (lv_at hl 8 rfl) ?_
            refine lv_iconst (v := zi 1) hx hb dL_isStep_124 (by decide) ?_
            refine pz_iadd hx hb dL_isStep_125 ?_
            refine lv_iconst (v := zi 1) hx hb dL_isStep_126 (by decide) ?_
            have hPc := hP.part (cx := []) [] rfl
            have hDc := hD.part (cx := []) [] (by decide) rfl
            have hFc := va_freeP (cx := []) hD hS hA [] rfl
            refine va_calli (va_runV (As := [.int (zi i), .int (zi (y + 1)), .int (zi 1)]) (rest := []) ⟨hx, hb, hml, hown, hts⟩ (c_X7_at l dC dI cI cZ cM cT H.size hh ms gv tn tb κ1_18 i am aw av ax T kk ka kb (y + 1) 1 (by first | assumption | omega | rfl) hz_19 (by first | assumption | omega | rfl) hμ (by first | assumption | omega | rfl) (by first | assumption | omega | rfl)) (cwV 3 hts (goodIn_of _ (by decide +kernel)) rfl rfl rfl (by decide +kernel) ⟨Nat.le_of_ble_eq_true rfl, Nat.le_of_ble_eq_true rfl⟩) ⟨fun a U g mk q => by obtain ⟨q0, q1, qP, qK, qD⟩ := q; exact ⟨q0, q1, qP, va_K.moved (u := U) (U := U.calling g mk a) (Vm.Alike.refl U.vm) qK, qD⟩, va_recv hK hPc (ci := 6) (q0 := 0) rfl rfl, fun U hU hW => ⟨rfl, by rw [hU], by rw [hU]; exact hPc, va_K.moved hW.alike hK, hDc.weaken (fun _ _ _ _ => trivial)⟩⟩ rfl rfl hl.1 rfl (lv_room (Nat.le_of_ble_eq_true rfl)) dL_isStep_127 ⟨Nat.le_of_ble_eq_true rfl, Nat.le_of_ble_eq_true rfl⟩) hS (fun q _ h => hFc q h) hFc (fun r_24 u t H1 locs ht hvm hw hB hz1 hk1 hS => ?_)
            obtain ⟨κ1_25, hz_26, hP1, hK1, hD1⟩ := hB
            rw [ht] at hP1
            obtain ⟨hP, hD⟩ := va_joinP (wr := []) (rx := []) (pl1 := (pq_WD cI cZ cM cT hh ms gv tn tb κ1_25)) hP hD [] [] rfl rfl (by decide) (by decide) hk1 hFc hP1 hD1
            generalize H1 = H at hP hS ⊢
            have hP : va_P (dC, dI) vwCl ([] ++ (pq_WD cI cZ cM cT hh ms gv tn tb κ1_25)) H := hP
            have hD : va_D A ([] ++ (pq_WD cI cZ cM cT hh ms gv tn tb κ1_25)) := hD
            refine W.widen (k := 0) (n := 0) (Nat.le_of_ble_eq_true rfl) (Nat.le_of_ble_eq_true rfl) ?_
            obtain rfl : r_24 = zi (pq_av (pq_r T (y + 1).toNat) (1 : Int)) := hw
            refine pz_top (y := zi (pq_q (pq_r T y.toNat))) (congrArg zi ((show pq_av (pq_r T (y + 1).toNat) 1 = pq_q (pq_r T (y + 1).toNat) from rfl).trans (by rw [hoff]))) ?_
            refine lv_iload hx hb dL_isStep_130 (lv_at hl 4 rfl) ?_
            refine pz_icmp_ne (tgt := 158) hx hb (by omega) dL_isStep_132 (by decide) (fun c_27 => ?_) (fun c_27 => ?_)
            · exact (c_27 (by omega)).elim
            · refine lv_aload_n hx hb dL_isStep_135 rfl (lv_at hl 6 rfl) ?_
              refine lv_iload_n hx hb dL_isStep_136 rfl (lv_at hl 7 rfl) ?_
              refine lv_iload_n hx hb dL_isStep_137 rfl (lv_at hl 8 rfl) ?_
              refine lv_iconst (v := zi 1) hx hb dL_isStep_138 (by decide) ?_
              refine pz_iadd hx hb dL_isStep_139 ?_
              refine lv_iconst (v := zi 3) hx hb dL_isStep_140 (by decide) ?_
              have hPc := hP.part (cx := []) [] rfl
              have hDc := hD.part (cx := []) [] (by decide) rfl
              have hFc := va_freeP (cx := []) hD hS hA [] rfl
              refine va_calli (va_runV (As := [.int (zi i), .int (zi (y + 1)), .int (zi 3)]) (rest := []) ⟨hx, hb, hml, hown, hts⟩ (c_X7_at l dC dI cI cZ cM cT H.size hh ms gv tn tb κ1_25 i am aw av ax T kk ka kb (y + 1) 3 (by first | assumption | omega | rfl) hz_26 (by first | assumption | omega | rfl) hμ (by first | assumption | omega | rfl) (by first | assumption | omega | rfl)) (cwV 3 hts (goodIn_of _ (by decide +kernel)) rfl rfl rfl (by decide +kernel) ⟨Nat.le_of_ble_eq_true rfl, Nat.le_of_ble_eq_true rfl⟩) ⟨fun a U g mk q => by obtain ⟨q0, q1, qP, qK, qD⟩ := q; exact ⟨q0, q1, qP, va_K.moved (u := U) (U := U.calling g mk a) (Vm.Alike.refl U.vm) qK, qD⟩, va_recv hK hPc (ci := 6) (q0 := 0) rfl rfl, fun U hU hW => ⟨rfl, by rw [hU], by rw [hU]; exact hPc, va_K.moved hW.alike hK, hDc.weaken (fun _ _ _ _ => trivial)⟩⟩ rfl rfl hl.1 rfl (lv_room (Nat.le_of_ble_eq_true rfl)) dL_isStep_141 ⟨Nat.le_of_ble_eq_true rfl, Nat.le_of_ble_eq_true rfl⟩) hS (fun q _ h => hFc q h) hFc (fun r_28 u t H1 locs ht hvm hw hB hz1 hk1 hS => ?_)
              obtain ⟨κ1_29, hz_30, hP1, hK1, hD1⟩ := hB
              rw [ht] at hP1
              obtain ⟨hP, hD⟩ := va_joinP (wr := []) (rx := []) (pl1 := (pq_WD cI cZ cM cT hh ms gv tn tb κ1_29)) hP hD [] [] rfl rfl (by decide) (by decide) hk1 hFc hP1 hD1
              generalize H1 = H at hP hS ⊢
              have hP : va_P (dC, dI) vwCl ([] ++ (pq_WD cI cZ cM cT hh ms gv tn tb κ1_29)) H := hP
              have hD : va_D A ([] ++ (pq_WD cI cZ cM cT hh ms gv tn tb κ1_29)) := hD
              refine W.widen (k := 0) (n := 0) (Nat.le_of_ble_eq_true rfl) (Nat.le_of_ble_eq_true rfl) ?_
              obtain rfl : r_28 = zi (pq_av (pq_r T (y + 1).toNat) (3 : Int)) := hw
              refine pz_top (y := zi (pq_ones (pq_r T y.toNat))) (congrArg zi ((show pq_av (pq_r T (y + 1).toNat) 3 = pq_ones (pq_r T (y + 1).toNat) from rfl).trans (by rw [hoff]))) ?_
              refine lv_aload_n hx hb dL_isStep_144 rfl (lv_at hl 6 rfl) ?_
              refine lv_iload_n hx hb dL_isStep_145 rfl (lv_at hl 7 rfl) ?_
              refine lv_iload_n hx hb dL_isStep_146 rfl (lv_at hl 8 rfl) ?_
              refine lv_iconst (v := zi 3) hx hb dL_isStep_147 (by decide) ?_
              have hPc := hP.part (cx := []) [] rfl
              have hDc := hD.part (cx := []) [] (by decide) rfl
              have hFc := va_freeP (cx := []) hD hS hA [] rfl
              refine va_calli (va_runV (As := [.int (zi i), .int (zi y), .int (zi 3)]) (rest := [.int (zi (pq_ones (pq_r T y.toNat)))]) ⟨hx, hb, hml, hown, hts⟩ (c_X7_at l dC dI cI cZ cM cT H.size hh ms gv tn tb κ1_29 i am aw av ax T kk ka kb y 3 (by first | assumption | omega | rfl) hz_30 (by first | assumption | omega | rfl) hμ (by first | assumption | omega | rfl) (by first | assumption | omega | rfl)) (cwV 3 hts (goodIn_of _ (by decide +kernel)) rfl rfl rfl (by decide +kernel) ⟨Nat.le_of_ble_eq_true rfl, Nat.le_of_ble_eq_true rfl⟩) ⟨fun a U g mk q => by obtain ⟨q0, q1, qP, qK, qD⟩ := q; exact ⟨q0, q1, qP, va_K.moved (u := U) (U := U.calling g mk a) (Vm.Alike.refl U.vm) qK, qD⟩, va_recv hK hPc (ci := 6) (q0 := 0) rfl rfl, fun U hU hW => ⟨rfl, by rw [hU], by rw [hU]; exact hPc, va_K.moved hW.alike hK, hDc.weaken (fun _ _ _ _ => trivial)⟩⟩ rfl rfl hl.1 rfl (lv_room (Nat.le_of_ble_eq_true rfl)) dL_isStep_148 ⟨Nat.le_of_ble_eq_true rfl, Nat.le_of_ble_eq_true rfl⟩) hS (fun q _ h => hFc q h) hFc (fun r_31 u t H1 locs ht hvm hw hB hz1 hk1 hS => ?_)
              obtain ⟨κ1_32, hz_33, hP1, hK1, hD1⟩ := hB
              rw [ht] at hP1
              obtain ⟨hP, hD⟩ := va_joinP (wr := []) (rx := []) (pl1 := (pq_WD cI cZ cM cT hh ms gv tn tb κ1_32)) hP hD [] [] rfl rfl (by decide) (by decide) hk1 hFc hP1 hD1
              generalize H1 = H at hP hS ⊢
              have hP : va_P (dC, dI) vwCl ([] ++ (pq_WD cI cZ cM cT hh ms gv tn tb κ1_32)) H := hP
              have hD : va_D A ([] ++ (pq_WD cI cZ cM cT hh ms gv tn tb κ1_32)) := hD
              refine W.widen (k := 0) (n := 0) (Nat.le_of_ble_eq_true rfl) (Nat.le_of_ble_eq_true rfl) ?_
              obtain rfl : r_31 = zi (pq_av (pq_r T y.toNat) (3 : Int)) := hw
              refine pz_top (y := zi (pq_ones (pq_r T y.toNat))) (congrArg zi (rfl)) ?_
              refine pz_icmp_ne (tgt := 158) hx hb (by omega) dL_isStep_151 (by decide) (fun c_34 => ?_) (fun c_34 => ?_)
              · exact (c_34 (by omega)).elim
              · refine lv_iconst (v := zi 1) hx hb dL_isStep_154 (by decide) ?_
                refine lv_goto (tgt := 159) hx hb dL_isStep_155 (by decide) ?_
                refine W.widen (k := 0) (n := 0) (Nat.le_of_ble_eq_true rfl) (Nat.le_of_ble_eq_true rfl) ?_
                exact W.zret (v := (zi 1)) hx hb hr (pz_nar (by first | omega | exact pb_or _)) (fun t ht hW => ⟨⟨(zi 1), (), rfl, rfl, ⟨κ1_32, hz_33, by rw [ht]; exact hP, va_K.moved hW.alike hK, hD⟩⟩, hS.F ht⟩) hS.2.2 dL_isStep_159
      · exact (c_21 (by omega)).elim
    · exact absurd c_20 (by omega)
  · refine lv_iload hx hb dL_isStep_52 (lv_at hl 3 rfl) ?_
    refine lv_aload_n hx hb dL_isStep_54 rfl (lv_at hl 5 rfl) ?_
    refine lv_iload_n hx hb dL_isStep_55 rfl (lv_at hl 6 rfl) ?_
    refine lv_iconst (v := zi 0) hx hb dL_isStep_56 (by decide) ?_
    have hPc := hP.part (cx := []) [] rfl
    have hDc := hD.part (cx := []) [] (by decide) rfl
    have hFc := va_freeP (cx := []) hD hS hA [] rfl
    refine va_calli (va_runV (As := [.int (zi i), .int (zi 0)]) (rest := [.int (zi (pq_q (pq_r T y.toNat)))]) ⟨hx, hb, hml, hown, hts⟩ (c_X7_ofMachine l dC dI cI cZ cM cT H.size hh ms gv tn tb κ1_14 i am aw av ax T kk ka kb 0 (by first | assumption | omega | rfl) hz_15 (by first | assumption | omega | rfl) hμ (by first | assumption | omega | rfl)) (cwV 2 hts (goodIn_of _ (by decide +kernel)) rfl rfl rfl (by decide +kernel) ⟨Nat.le_of_ble_eq_true rfl, Nat.le_of_ble_eq_true rfl⟩) ⟨fun a U g mk q => by obtain ⟨q0, q1, qP, qK, qD⟩ := q; exact ⟨q0, q1, qP, va_K.moved (u := U) (U := U.calling g mk a) (Vm.Alike.refl U.vm) qK, qD⟩, va_recv hK hPc (ci := 6) (q0 := 0) rfl rfl, fun U hU hW => ⟨rfl, by rw [hU], by rw [hU]; exact hPc, va_K.moved hW.alike hK, hDc.weaken (fun _ _ _ _ => trivial)⟩⟩ rfl rfl hl.1 rfl (lv_room (Nat.le_of_ble_eq_true rfl)) dL_isStep_57 ⟨Nat.le_of_ble_eq_true rfl, Nat.le_of_ble_eq_true rfl⟩) hS (fun q _ h => hFc q h) hFc (fun r_35 u t H1 locs ht hvm hw hB hz1 hk1 hS => ?_)
    obtain ⟨κ1_36, hz_37, hP1, hK1, hD1⟩ := hB
    rw [ht] at hP1
    obtain ⟨hP, hD⟩ := va_joinP (wr := []) (rx := []) (pl1 := (pq_WD cI cZ cM cT hh ms gv tn tb κ1_36)) hP hD [] [] rfl rfl (by decide) (by decide) hk1 hFc hP1 hD1
    generalize H1 = H at hP hS ⊢
    have hP : va_P (dC, dI) vwCl ([] ++ (pq_WD cI cZ cM cT hh ms gv tn tb κ1_36)) H := hP
    have hD : va_D A ([] ++ (pq_WD cI cZ cM cT hh ms gv tn tb κ1_36)) := hD
    refine W.widen (k := 0) (n := 0) (Nat.le_of_ble_eq_true rfl) (Nat.le_of_ble_eq_true rfl) ?_
    obtain rfl : r_35 = zi (pq_om T kk ka kb (0 : Int)) := hw
    refine pz_top (y := zi (pq_n T)) (congrArg zi (rfl)) ?_
    refine pz_icmp_ge (tgt := 80) hx hb (by omega) dL_isStep_60 (by decide) (fun c_38 => ?_) (fun c_38 => ?_)
    · refine lv_iconst (v := zi 0) hx hb dL_isStep_80 (by decide) ?_
      have hno : ¬ pq_on T (pq_r T y.toNat) := fun h => by have := h.1; omega
      have hoff : pq_r T (y + 1).toNat = (pq_r T y.toNat) := hs1.trans (pq_nx_off hno)
      have hp1 : pq_p (pq_r T (y + 1).toNat) = pq_p (pq_r T y.toNat) := by rw [hoff]
      refine lv_istore (lv' := [(8, .int (zi 0)), (7, .int (zi (pq_t (pq_r T y.toNat) (pq_p (pq_r T y.toNat))))), (6, .int (zi (pq_p (pq_r T (y + 1).toNat)))), (5, .int (zi (pq_p (pq_r T y.toNat)))), (4, .int (zi (pq_q (pq_r T y.toNat)))), (3, .int (zi (pq_d (pq_r T y.toNat)))), (0, .ref hh), (1, .int (zi i)), (2, .int (zi y))]) hx hb dL_isStep_81 hl (by decide) rfl (fun ls hl => ?_)
      refine lv_aload_n hx hb dL_isStep_83 rfl (lv_at hl 6 rfl) ?_
      refine lv_iload_n hx hb dL_isStep_84 rfl (lv_at hl 7 rfl) ?_
      refine lv_iload_n hx hb dL_isStep_85 rfl (lv_at hl 8 rfl) ?_
      refine lv_iconst (v := zi 1) hx hb dL_isStep_86 (by decide) ?_
      refine pz_iadd hx hb dL_isStep_87 ?_
      refine lv_iconst (v := zi 0) hx hb dL_isStep_88 (by decide) ?_
      have hPc := hP.part (cx := []) [] rfl
      have hDc := hD.part (cx := []) [] (by decide) rfl
      have hFc := va_freeP (cx := []) hD hS hA [] rfl
      refine va_calli (va_runV (As := [.int (zi i), .int (zi (y + 1)), .int (zi 0)]) (rest := []) ⟨hx, hb, hml, hown, hts⟩ (c_X7_at l dC dI cI cZ cM cT H.size hh ms gv tn tb κ1_36 i am aw av ax T kk ka kb (y + 1) 0 (by first | assumption | omega | rfl) hz_37 (by first | assumption | omega | rfl) hμ (by first | assumption | omega | rfl) (by first | assumption | omega | rfl)) (cwV 3 hts (goodIn_of _ (by decide +kernel)) rfl rfl rfl (by decide +kernel) ⟨Nat.le_of_ble_eq_true rfl, Nat.le_of_ble_eq_true rfl⟩) ⟨fun a U g mk q => by obtain ⟨q0, q1, qP, qK, qD⟩ := q; exact ⟨q0, q1, qP, va_K.moved (u := U) (U := U.calling g mk a) (Vm.Alike.refl U.vm) qK, qD⟩, va_recv hK hPc (ci := 6) (q0 := 0) rfl rfl, fun U hU hW => ⟨rfl, by rw [hU], by rw [hU]; exact hPc, va_K.moved hW.alike hK, hDc.weaken (fun _ _ _ _ => trivial)⟩⟩ rfl rfl hl.1 rfl (lv_room (Nat.le_of_ble_eq_true rfl)) dL_isStep_89 ⟨Nat.le_of_ble_eq_true rfl, Nat.le_of_ble_eq_true rfl⟩) hS (fun q _ h => hFc q h) hFc (fun r_39 u t H1 locs ht hvm hw hB hz1 hk1 hS => ?_)
      obtain ⟨κ1_40, hz_41, hP1, hK1, hD1⟩ := hB
      rw [ht] at hP1
      obtain ⟨hP, hD⟩ := va_joinP (wr := []) (rx := []) (pl1 := (pq_WD cI cZ cM cT hh ms gv tn tb κ1_40)) hP hD [] [] rfl rfl (by decide) (by decide) hk1 hFc hP1 hD1
      generalize H1 = H at hP hS ⊢
      have hP : va_P (dC, dI) vwCl ([] ++ (pq_WD cI cZ cM cT hh ms gv tn tb κ1_40)) H := hP
      have hD : va_D A ([] ++ (pq_WD cI cZ cM cT hh ms gv tn tb κ1_40)) := hD
      refine W.widen (k := 0) (n := 0) (Nat.le_of_ble_eq_true rfl) (Nat.le_of_ble_eq_true rfl) ?_
      obtain rfl : r_39 = zi (pq_av (pq_r T (y + 1).toNat) (0 : Int)) := hw
      refine pz_top (y := zi (pq_d (pq_r T y.toNat))) (congrArg zi ((show pq_av (pq_r T (y + 1).toNat) 0 = pq_d (pq_r T (y + 1).toNat) from rfl).trans (by rw [hoff]))) ?_
      refine lv_iload_n hx hb dL_isStep_92 rfl (lv_at hl 5 rfl) ?_
      refine lv_iload hx hb dL_isStep_93 (lv_at hl 0 rfl) ?_
      refine pz_if_eq (tgt := 102) hx hb (by omega) dL_isStep_95 (by decide) (fun c_42 => ?_) (fun c_42 => ?_)
      · refine lv_iconst (v := zi 0) hx hb dL_isStep_102 (by decide) ?_
        refine pz_iadd hx hb dL_isStep_103 ?_
        refine pz_icmp_eq (tgt := 109) hx hb (by omega) dL_isStep_104 (by decide) (fun c_43 => ?_) (fun c_43 => ?_)
        · refine lv_iload hx hb dL_isStep_109 (lv_at hl 0 rfl) ?_
          refine pz_if_ne (tgt := 160) hx hb (by omega) dL_isStep_111 (by decide) (fun c_44 => ?_) (fun c_44 => ?_)
          · exact absurd c_44 (by omega)
          · refine lv_iload hx hb dL_isStep_114 (lv_at hl 2 rfl) ?_
            refine lv_iload hx hb dL_isStep_116 (lv_at hl 3 rfl) ?_
            refine pz_icmp_ne (tgt := 158) hx hb (by omega) dL_isStep_118 (by decide) (fun c_45 => ?_) (fun c_45 => ?_)
            · exact (c_45 (by omega)).elim
            · refine lv_aload_n hx hb dL_isStep_121 rfl (lv_at hl 6 rfl) ?_
              refine lv_iload_n hx hb dL_isStep_122 rfl (lv_at hl 7 rfl) ?_
              refine lv_iload_n hx hb dL_isStep_123 rfl (lv_at hl 8 rfl) ?_
              refine lv_iconst (v := zi 1) hx hb dL_isStep_124 (by decide) ?_
              refine pz_iadd hx hb dL_isStep_125 ?_
              refine lv_iconst (v := zi 1) hx hb dL_isStep_126 (by decide) ?_
              have hPc := hP.part (cx := []) [] rfl
              have hDc := hD.part (cx := []) [] (by decide) rfl
              have hFc := va_freeP (cx := []) hD hS hA [] rfl
              refine va_calli (va_runV (As := [.int (zi i), .int (zi (y + 1)), .int (zi 1)]) (rest := []) ⟨hx, hb, hml, hown, hts⟩ (c_X7_at l dC dI cI cZ cM cT H.size hh ms gv tn tb κ1_40 i am aw av ax T kk ka kb (y + 1) 1 (by first | assumption | omega | rfl) hz_41 (by first | assumption | omega | rfl) hμ (by first | assumption | omega | rfl) (by first | assumption | omega | rfl)) (cwV 3 hts (goodIn_of _ (by decide +kernel)) rfl rfl rfl (by decide +kernel) ⟨Nat.le_of_ble_eq_true rfl, Nat.le_of_ble_eq_true rfl⟩) ⟨fun a U g mk q => by obtain ⟨q0, q1, qP, qK, qD⟩ := q; exact ⟨q0, q1, qP, va_K.moved (u := U) (U := U.calling g mk a) (Vm.Alike.refl U.vm) qK, qD⟩, va_recv hK hPc (ci := 6) (q0 := 0) rfl rfl, fun U hU hW => ⟨rfl, by rw [hU], by rw [hU]; exact hPc, va_K.moved hW.alike hK, hDc.weaken (fun _ _ _ _ => trivial)⟩⟩ rfl rfl hl.1 rfl (lv_room (Nat.le_of_ble_eq_true rfl)) dL_isStep_127 ⟨Nat.le_of_ble_eq_true rfl, Nat.le_of_ble_eq_true rfl⟩) hS (fun q _ h => hFc q h) hFc (fun r_46 u t H1 locs ht hvm hw hB hz1 hk1 hS => ?_)
              obtain ⟨κ1_47, hz_48, hP1, hK1, hD1⟩ := hB
              rw [ht] at hP1
              obtain ⟨hP, hD⟩ := va_joinP (wr := []) (rx := []) (pl1 := (pq_WD cI cZ cM cT hh ms gv tn tb κ1_47)) hP hD [] [] rfl rfl (by decide) (by decide) hk1 hFc hP1 hD1
              generalize H1 = H at hP hS ⊢
              have hP : va_P (dC, dI) vwCl ([] ++ (pq_WD cI cZ cM cT hh ms gv tn tb κ1_47)) H := hP
              have hD : va_D A ([] ++ (pq_WD cI cZ cM cT hh ms gv tn tb κ1_47)) := hD
              refine W.widen (k := 0) (n := 0) (Nat.le_of_ble_eq_true rfl) (Nat.le_of_ble_eq_true rfl) ?_
              obtain rfl : r_46 = zi (pq_av (pq_r T (y + 1).toNat) (1 : Int)) := hw
              refine pz_top (y := zi (pq_q (pq_r T y.toNat))) (congrArg zi ((show pq_av (pq_r T (y + 1).toNat) 1 = pq_q (pq_r T (y + 1).toNat) from rfl).trans (by rw [hoff]))) ?_
              refine lv_iload hx hb dL_isStep_130 (lv_at hl 4 rfl) ?_
              refine pz_icmp_ne (tgt := 158) hx hb (by omega) dL_isStep_132 (by decide) (fun c_49 => ?_) (fun c_49 => ?_)
              · exact (c_49 (by omega)).elim
              · refine lv_aload_n hx hb dL_isStep_135 rfl (lv_at hl 6 rfl) ?_
                refine lv_iload_n hx hb dL_isStep_136 rfl (lv_at hl 7 rfl) ?_
                refine lv_iload_n hx hb dL_isStep_137 rfl (lv_at hl 8 rfl) ?_
                refine lv_iconst (v := zi 1) hx hb dL_isStep_138 (by decide) ?_
                refine pz_iadd hx hb dL_isStep_139 ?_
                refine lv_iconst (v := zi 3) hx hb dL_isStep_140 (by decide) ?_
                have hPc := hP.part (cx := []) [] rfl
                have hDc := hD.part (cx := []) [] (by decide) rfl
                have hFc := va_freeP (cx := []) hD hS hA [] rfl
                refine va_calli (va_runV (As := [.int (zi i), .int (zi (y + 1)), .int (zi 3)]) (rest := []) ⟨hx, hb, hml, hown, hts⟩ (c_X7_at l dC dI cI cZ cM cT H.size hh ms gv tn tb κ1_47 i am aw av ax T kk ka kb (y + 1) 3 (by first | assumption | omega | rfl) hz_48 (by first | assumption | omega | rfl) hμ (by first | assumption | omega | rfl) (by first | assumption | omega | rfl)) (cwV 3 hts (goodIn_of _ (by decide +kernel)) rfl rfl rfl (by decide +kernel) ⟨Nat.le_of_ble_eq_true rfl, Nat.le_of_ble_eq_true rfl⟩) ⟨fun a U g mk q => by obtain ⟨q0, q1, qP, qK, qD⟩ := q; exact ⟨q0, q1, qP, va_K.moved (u := U) (U := U.calling g mk a) (Vm.Alike.refl U.vm) qK, qD⟩, va_recv hK hPc (ci := 6) (q0 := 0) rfl rfl, fun U hU hW => ⟨rfl, by rw [hU], by rw [hU]; exact hPc, va_K.moved hW.alike hK, hDc.weaken (fun _ _ _ _ => trivial)⟩⟩ rfl rfl hl.1 rfl (lv_room (Nat.le_of_ble_eq_true rfl)) dL_isStep_141 ⟨Nat.le_of_ble_eq_true rfl, Nat.le_of_ble_eq_true rfl⟩) hS (fun q _ h => hFc q h) hFc (fun r_50 u t H1 locs ht hvm hw hB hz1 hk1 hS => ?_)
                obtain ⟨κ1_51, hz_52, hP1, hK1, hD1⟩ := hB
                rw [ht] at hP1
                obtain ⟨hP, hD⟩ := va_joinP (wr := []) (rx := []) (pl1 := (pq_WD cI cZ cM cT hh ms gv tn tb κ1_51)) hP hD [] [] rfl rfl (by decide) (by decide) hk1 hFc hP1 hD1
                generalize H1 = H at hP hS ⊢
                have hP : va_P (dC, dI) vwCl ([] ++ (pq_WD cI cZ cM cT hh ms gv tn tb κ1_51)) H := hP
                have hD : va_D A ([] ++ (pq_WD cI cZ cM cT hh ms gv tn tb κ1_51)) := hD
                refine W.widen (k := 0) (n := 0) (Nat.le_of_ble_eq_true rfl) (Nat.le_of_ble_eq_true rfl) ?_
                obtain rfl : r_50 = zi (pq_av (pq_r T (y + 1).toNat) (3 : Int)) := hw
                refine pz_top (y := zi (pq_ones (pq_r T y.toNat))) (congrArg zi ((show pq_av (pq_r T (y + 1).toNat) 3 = pq_ones (pq_r T (y + 1).toNat) from rfl).trans (by rw [hoff]))) ?_
                refine lv_aload_n hx hb dL_isStep_144 rfl (lv_at hl 6 rfl) ?_
                refine lv_iload_n hx hb dL_isStep_145 rfl (lv_at hl 7 rfl) ?_
                refine lv_iload_n hx hb dL_isStep_146 rfl (lv_at hl 8 rfl) ?_
                refine lv_iconst (v := zi 3) hx hb dL_isStep_147 (by decide) ?_
                have hPc := hP.part (cx := []) [] rfl
                have hDc := hD.part (cx := []) [] (by decide) rfl
                have hFc := va_freeP (cx := []) hD hS hA [] rfl
                refine va_calli (va_runV (As := [.int (zi i), .int (zi y), .int (zi 3)]) (rest := [.int (zi (pq_ones (pq_r T y.toNat)))]) ⟨hx, hb, hml, hown, hts⟩ (c_X7_at l dC dI cI cZ cM cT H.size hh ms gv tn tb κ1_51 i am aw av ax T kk ka kb y 3 (by first | assumption | omega | rfl) hz_52 (by first | assumption | omega | rfl) hμ (by first | assumption | omega | rfl) (by first | assumption | omega | rfl)) (cwV 3 hts (goodIn_of _ (by decide +kernel)) rfl rfl rfl (by decide +kernel) ⟨Nat.le_of_ble_eq_true rfl, Nat.le_of_ble_eq_true rfl⟩) ⟨fun a U g mk q => by obtain ⟨q0, q1, qP, qK, qD⟩ := q; exact ⟨q0, q1, qP, va_K.moved (u := U) (U := U.calling g mk a) (Vm.Alike.refl U.vm) qK, qD⟩, va_recv hK hPc (ci := 6) (q0 := 0) rfl rfl, fun U hU hW => ⟨rfl, by rw [hU], by rw [hU]; exact hPc, va_K.moved hW.alike hK, hDc.weaken (fun _ _ _ _ => trivial)⟩⟩ rfl rfl hl.1 rfl (lv_room (Nat.le_of_ble_eq_true rfl)) dL_isStep_148 ⟨Nat.le_of_ble_eq_true rfl, Nat.le_of_ble_eq_true rfl⟩) hS (fun q _ h => hFc q h) hFc (fun r_53 u t H1 locs ht hvm hw hB hz1 hk1 hS => ?_)
                obtain ⟨κ1_54, hz_55, hP1, hK1, hD1⟩ := hB
                rw [ht] at hP1
                obtain ⟨hP, hD⟩ := va_joinP (wr := []) (rx := []) (pl1 := (pq_WD cI cZ cM cT hh ms gv tn tb κ1_54)) hP hD [] [] rfl rfl (by decide) (by decide) hk1 hFc hP1 hD1
                generalize H1 = H at hP hS ⊢
                have hP : va_P (dC, dI) vwCl ([] ++ (pq_WD cI cZ cM cT hh ms gv tn tb κ1_54)) H := hP
                have hD : va_D A ([] ++ (pq_WD cI cZ cM cT hh ms gv tn tb κ1_54)) := hD
                refine W.widen (k := 0) (n := 0) (Nat.le_of_ble_eq_true rfl) (Nat.le_of_ble_eq_true rfl) ?_
                obtain rfl : r_53 = zi (pq_av (pq_r T y.toNat) (3 : Int)) := hw
                refine pz_top (y := zi (pq_ones (pq_r T y.toNat))) (congrArg zi (rfl)) ?_
                refine pz_icmp_ne (tgt := 158) hx hb (by omega) dL_isStep_151 (by decide) (fun c_56 => ?_) (fun c_56 => ?_)
                · exact (c_56 (by omega)).elim
                · refine lv_iconst (v := zi 1) hx hb dL_isStep_154 (by decide) ?_
                  refine lv_goto (tgt := 159) hx hb dL_isStep_155 (by decide) ?_
                  refine W.widen (k := 0) (n := 0) (Nat.le_of_ble_eq_true rfl) (Nat.le_of_ble_eq_true rfl) ?_
                  exact W.zret (v := (zi 1)) hx hb hr (pz_nar (by first | omega | exact pb_or _)) (fun t ht hW => ⟨⟨(zi 1), (), rfl, rfl, ⟨κ1_54, hz_55, by rw [ht]; exact hP, va_K.moved hW.alike hK, hD⟩⟩, hS.F ht⟩) hS.2.2 dL_isStep_159
        · exact (c_43 (by omega)).elim
      · exact absurd c_42 (by omega)
    · refine lv_aload_n hx hb dL_isStep_63 rfl (lv_at hl 5 rfl) ?_
      refine lv_iload_n hx hb dL_isStep_64 rfl (lv_at hl 6 rfl) ?_
      refine lv_iload hx hb dL_isStep_65 (lv_at hl 3 rfl) ?_
      refine lv_iload hx hb dL_isStep_67 (lv_at hl 0 rfl) ?_
      refine lv_iconst (v := zi 0) hx hb dL_isStep_69 (by decide) ?_
      have hPc := hP.part (cx := []) [] rfl
      have hDc := hD.part (cx := []) [] (by decide) rfl
      have hFc := va_freeP (cx := []) hD hS hA [] rfl
      refine va_calli (va_runV (As := [.int (zi i), .int (zi (pq_q (pq_r T y.toNat))), .int (zi (pq_t (pq_r T y.toNat) (pq_p (pq_r T y.toNat)))), .int (zi 0)]) (rest := []) ⟨hx, hb, hml, hown, hts⟩ (c_X7_cell l dC dI cI cZ cM cT H.size hh ms gv tn tb κ1_36 i am aw av ax T kk ka kb (pq_q (pq_r T y.toNat)) (pq_t (pq_r T y.toNat) (pq_p (pq_r T y.toNat))) 0 (by first | assumption | omega | rfl) hz_37 (by first | assumption | omega | rfl) hμ (by first | assumption | omega | rfl) h01 (by first | assumption | omega | rfl)) (cwV 4 hts (goodIn_of _ (by decide +kernel)) rfl rfl rfl (by decide +kernel) ⟨Nat.le_of_ble_eq_true rfl, Nat.le_of_ble_eq_true rfl⟩) ⟨fun a U g mk q => by obtain ⟨q0, q1, qP, qK, qD⟩ := q; exact ⟨q0, q1, qP, va_K.moved (u := U) (U := U.calling g mk a) (Vm.Alike.refl U.vm) qK, qD⟩, va_recv hK hPc (ci := 6) (q0 := 0) rfl rfl, fun U hU hW => ⟨rfl, by rw [hU], by rw [hU]; exact hPc, va_K.moved hW.alike hK, hDc.weaken (fun _ _ _ _ => trivial)⟩⟩ rfl rfl hl.1 rfl (lv_room (Nat.le_of_ble_eq_true rfl)) dL_isStep_70 ⟨Nat.le_of_ble_eq_true rfl, Nat.le_of_ble_eq_true rfl⟩) hS (fun q _ h => hFc q h) hFc (fun r_57 u t H1 locs ht hvm hw hB hz1 hk1 hS => ?_)
      obtain ⟨κ1_58, hz_59, hP1, hK1, hD1⟩ := hB
      rw [ht] at hP1
      obtain ⟨hP, hD⟩ := va_joinP (wr := []) (rx := []) (pl1 := (pq_WD cI cZ cM cT hh ms gv tn tb κ1_58)) hP hD [] [] rfl rfl (by decide) (by decide) hk1 hFc hP1 hD1
      generalize H1 = H at hP hS ⊢
      have hP : va_P (dC, dI) vwCl ([] ++ (pq_WD cI cZ cM cT hh ms gv tn tb κ1_58)) H := hP
      have hD : va_D A ([] ++ (pq_WD cI cZ cM cT hh ms gv tn tb κ1_58)) := hD
      refine W.widen (k := 0) (n := 0) (Nat.le_of_ble_eq_true rfl) (Nat.le_of_ble_eq_true rfl) ?_
      obtain rfl : r_57 = zi (pq_ca T (2 * (pq_q (pq_r T y.toNat)) + (pq_t (pq_r T y.toNat) (pq_p (pq_r T y.toNat)))) (0 : Int)) := hw
      refine pz_top (y := zi (pq_ca T (pq_m (pq_r T y.toNat)) 0)) (congrArg zi (rfl)) ?_
      refine pz_if_lt (tgt := 80) hx hb (by omega) dL_isStep_73 (by decide) (fun c_60 => ?_) (fun c_60 => ?_)
      · refine lv_iconst (v := zi 0) hx hb dL_isStep_80 (by decide) ?_
        have hno : ¬ pq_on T (pq_r T y.toNat) := fun h => by have h9 := c_60; rw [pq_ca_0 h.2] at h9; have := pq_nE hok h.2; omega
        have hoff : pq_r T (y + 1).toNat = (pq_r T y.toNat) := hs1.trans (pq_nx_off hno)
        have hp1 : pq_p (pq_r T (y + 1).toNat) = pq_p (pq_r T y.toNat) := by rw [hoff]
        refine lv_istore (lv' := [(8, .int (zi 0)), (7, .int (zi (pq_t (pq_r T y.toNat) (pq_p (pq_r T y.toNat))))), (6, .int (zi (pq_p (pq_r T (y + 1).toNat)))), (5, .int (zi (pq_p (pq_r T y.toNat)))), (4, .int (zi (pq_q (pq_r T y.toNat)))), (3, .int (zi (pq_d (pq_r T y.toNat)))), (0, .ref hh), (1, .int (zi i)), (2, .int (zi y))]) hx hb dL_isStep_81 hl (by decide) rfl (fun ls hl => ?_)
        refine lv_aload_n hx hb dL_isStep_83 rfl (lv_at hl 6 rfl) ?_
        refine lv_iload_n hx hb dL_isStep_84 rfl (lv_at hl 7 rfl) ?_
        refine lv_iload_n hx hb dL_isStep_85 rfl (lv_at hl 8 rfl) ?_
        refine lv_iconst (v := zi 1) hx hb dL_isStep_86 (by decide) ?_
        refine pz_iadd hx hb dL_isStep_87 ?_
        refine lv_iconst (v := zi 0) hx hb dL_isStep_88 (by decide) ?_
        have hPc := hP.part (cx := []) [] rfl
        have hDc := hD.part (cx := []) [] (by decide) rfl
        have hFc := va_freeP (cx := []) hD hS hA [] rfl
        refine va_calli (va_runV (As := [.int (zi i), .int (zi (y + 1)), .int (zi 0)]) (rest := []) ⟨hx, hb, hml, hown, hts⟩ (c_X7_at l dC dI cI cZ cM cT H.size hh ms gv tn tb κ1_58 i am aw av ax T kk ka kb (y + 1) 0 (by first | assumption | omega | rfl) hz_59 (by first | assumption | omega | rfl) hμ (by first | assumption | omega | rfl) (by first | assumption | omega | rfl)) (cwV 3 hts (goodIn_of _ (by decide +kernel)) rfl rfl rfl (by decide +kernel) ⟨Nat.le_of_ble_eq_true rfl, Nat.le_of_ble_eq_true rfl⟩) ⟨fun a U g mk q => by obtain ⟨q0, q1, qP, qK, qD⟩ := q; exact ⟨q0, q1, qP, va_K.moved (u := U) (U := U.calling g mk a) (Vm.Alike.refl U.vm) qK, qD⟩, va_recv hK hPc (ci := 6) (q0 := 0) rfl rfl, fun U hU hW => ⟨rfl, by rw [hU], by rw [hU]; exact hPc, va_K.moved hW.alike hK, hDc.weaken (fun _ _ _ _ => trivial)⟩⟩ rfl rfl hl.1 rfl (lv_room (Nat.le_of_ble_eq_true rfl)) dL_isStep_89 ⟨Nat.le_of_ble_eq_true rfl, Nat.le_of_ble_eq_true rfl⟩) hS (fun q _ h => hFc q h) hFc (fun r_61 u t H1 locs ht hvm hw hB hz1 hk1 hS => ?_)
        obtain ⟨κ1_62, hz_63, hP1, hK1, hD1⟩ := hB
        rw [ht] at hP1
        obtain ⟨hP, hD⟩ := va_joinP (wr := []) (rx := []) (pl1 := (pq_WD cI cZ cM cT hh ms gv tn tb κ1_62)) hP hD [] [] rfl rfl (by decide) (by decide) hk1 hFc hP1 hD1
        generalize H1 = H at hP hS ⊢
        have hP : va_P (dC, dI) vwCl ([] ++ (pq_WD cI cZ cM cT hh ms gv tn tb κ1_62)) H := hP
        have hD : va_D A ([] ++ (pq_WD cI cZ cM cT hh ms gv tn tb κ1_62)) := hD
        refine W.widen (k := 0) (n := 0) (Nat.le_of_ble_eq_true rfl) (Nat.le_of_ble_eq_true rfl) ?_
        obtain rfl : r_61 = zi (pq_av (pq_r T (y + 1).toNat) (0 : Int)) := hw
        refine pz_top (y := zi (pq_d (pq_r T y.toNat))) (congrArg zi ((show pq_av (pq_r T (y + 1).toNat) 0 = pq_d (pq_r T (y + 1).toNat) from rfl).trans (by rw [hoff]))) ?_
        refine lv_iload_n hx hb dL_isStep_92 rfl (lv_at hl 5 rfl) ?_
        refine lv_iload hx hb dL_isStep_93 (lv_at hl 0 rfl) ?_
        refine pz_if_eq (tgt := 102) hx hb (by omega) dL_isStep_95 (by decide) (fun c_64 => ?_) (fun c_64 => ?_)
        · refine lv_iconst (v := zi 0) hx hb dL_isStep_102 (by decide) ?_
          refine pz_iadd hx hb dL_isStep_103 ?_
          refine pz_icmp_eq (tgt := 109) hx hb (by omega) dL_isStep_104 (by decide) (fun c_65 => ?_) (fun c_65 => ?_)
          · refine lv_iload hx hb dL_isStep_109 (lv_at hl 0 rfl) ?_
            refine pz_if_ne (tgt := 160) hx hb (by omega) dL_isStep_111 (by decide) (fun c_66 => ?_) (fun c_66 => ?_)
            · exact absurd c_66 (by omega)
            · refine lv_iload hx hb dL_isStep_114 (lv_at hl 2 rfl) ?_
              refine lv_iload hx hb dL_isStep_116 (lv_at hl 3 rfl) ?_
              refine pz_icmp_ne (tgt := 158) hx hb (by omega) dL_isStep_118 (by decide) (fun c_67 => ?_) (fun c_67 => ?_)
              · exact (c_67 (by omega)).elim
              · refine lv_aload_n hx hb dL_isStep_121 rfl (lv_at hl 6 rfl) ?_
                refine lv_iload_n hx hb dL_isStep_122 rfl (lv_at hl 7 rfl) ?_
                refine lv_iload_n hx hb dL_isStep_123 rfl (lv_at hl 8 rfl) ?_
                refine lv_iconst (v := zi 1) hx hb dL_isStep_124 (by decide) ?_
                refine pz_iadd hx hb dL_isStep_125 ?_
                refine lv_iconst (v := zi 1) hx hb dL_isStep_126 (by decide) ?_
                have hPc := hP.part (cx := []) [] rfl
                have hDc := hD.part (cx := []) [] (by decide) rfl
                have hFc := va_freeP (cx := []) hD hS hA [] rfl
                refine va_calli (va_runV (As := [.int (zi i), .int (zi (y + 1)), .int (zi 1)]) (rest := []) ⟨hx, hb, hml, hown, hts⟩ (c_X7_at l dC dI cI cZ cM cT H.size hh ms gv tn tb κ1_62 i am aw av ax T kk ka kb (y + 1) 1 (by first | assumption | omega | rfl) hz_63 (by first | assumption | omega | rfl) hμ (by first | assumption | omega | rfl) (by first | assumption | omega | rfl)) (cwV 3 hts (goodIn_of _ (by decide +kernel)) rfl rfl rfl (by decide +kernel) ⟨Nat.le_of_ble_eq_true rfl, Nat.le_of_ble_eq_true rfl⟩) ⟨fun a U g mk q => by obtain ⟨q0, q1, qP, qK, qD⟩ := q; exact ⟨q0, q1, qP, va_K.moved (u := U) (U := U.calling g mk a) (Vm.Alike.refl U.vm) qK, qD⟩, va_recv hK hPc (ci := 6) (q0 := 0) rfl rfl, fun U hU hW => ⟨rfl, by rw [hU], by rw [hU]; exact hPc, va_K.moved hW.alike hK, hDc.weaken (fun _ _ _ _ => trivial)⟩⟩ rfl rfl hl.1 rfl (lv_room (Nat.le_of_ble_eq_true rfl)) dL_isStep_127 ⟨Nat.le_of_ble_eq_true rfl, Nat.le_of_ble_eq_true rfl⟩) hS (fun q _ h => hFc q h) hFc (fun r_68 u t H1 locs ht hvm hw hB hz1 hk1 hS => ?_)
                obtain ⟨κ1_69, hz_70, hP1, hK1, hD1⟩ := hB
                rw [ht] at hP1
                obtain ⟨hP, hD⟩ := va_joinP (wr := []) (rx := []) (pl1 := (pq_WD cI cZ cM cT hh ms gv tn tb κ1_69)) hP hD [] [] rfl rfl (by decide) (by decide) hk1 hFc hP1 hD1
                generalize H1 = H at hP hS ⊢
                have hP : va_P (dC, dI) vwCl ([] ++ (pq_WD cI cZ cM cT hh ms gv tn tb κ1_69)) H := hP
                have hD : va_D A ([] ++ (pq_WD cI cZ cM cT hh ms gv tn tb κ1_69)) := hD
                refine W.widen (k := 0) (n := 0) (Nat.le_of_ble_eq_true rfl) (Nat.le_of_ble_eq_true rfl) ?_
                obtain rfl : r_68 = zi (pq_av (pq_r T (y + 1).toNat) (1 : Int)) := hw
                refine pz_top (y := zi (pq_q (pq_r T y.toNat))) (congrArg zi ((show pq_av (pq_r T (y + 1).toNat) 1 = pq_q (pq_r T (y + 1).toNat) from rfl).trans (by rw [hoff]))) ?_
                refine lv_iload hx hb dL_isStep_130 (lv_at hl 4 rfl) ?_
                refine pz_icmp_ne (tgt := 158) hx hb (by omega) dL_isStep_132 (by decide) (fun c_71 => ?_) (fun c_71 => ?_)
                · exact (c_71 (by omega)).elim
                · refine lv_aload_n hx hb dL_isStep_135 rfl (lv_at hl 6 rfl) ?_
                  refine lv_iload_n hx hb dL_isStep_136 rfl (lv_at hl 7 rfl) ?_
                  refine lv_iload_n hx hb dL_isStep_137 rfl (lv_at hl 8 rfl) ?_
                  refine lv_iconst (v := zi 1) hx hb dL_isStep_138 (by decide) ?_
                  refine pz_iadd hx hb dL_isStep_139 ?_
                  refine lv_iconst (v := zi 3) hx hb dL_isStep_140 (by decide) ?_
                  have hPc := hP.part (cx := []) [] rfl
                  have hDc := hD.part (cx := []) [] (by decide) rfl
                  have hFc := va_freeP (cx := []) hD hS hA [] rfl
                  refine va_calli (va_runV (As := [.int (zi i), .int (zi (y + 1)), .int (zi 3)]) (rest := []) ⟨hx, hb, hml, hown, hts⟩ (c_X7_at l dC dI cI cZ cM cT H.size hh ms gv tn tb κ1_69 i am aw av ax T kk ka kb (y + 1) 3 (by first | assumption | omega | rfl) hz_70 (by first | assumption | omega | rfl) hμ (by first | assumption | omega | rfl) (by first | assumption | omega | rfl)) (cwV 3 hts (goodIn_of _ (by decide +kernel)) rfl rfl rfl (by decide +kernel) ⟨Nat.le_of_ble_eq_true rfl, Nat.le_of_ble_eq_true rfl⟩) ⟨fun a U g mk q => by obtain ⟨q0, q1, qP, qK, qD⟩ := q; exact ⟨q0, q1, qP, va_K.moved (u := U) (U := U.calling g mk a) (Vm.Alike.refl U.vm) qK, qD⟩, va_recv hK hPc (ci := 6) (q0 := 0) rfl rfl, fun U hU hW => ⟨rfl, by rw [hU], by rw [hU]; exact hPc, va_K.moved hW.alike hK, hDc.weaken (fun _ _ _ _ => trivial)⟩⟩ rfl rfl hl.1 rfl (lv_room (Nat.le_of_ble_eq_true rfl)) dL_isStep_141 ⟨Nat.le_of_ble_eq_true rfl, Nat.le_of_ble_eq_true rfl⟩) hS (fun q _ h => hFc q h) hFc (fun r_72 u t H1 locs ht hvm hw hB hz1 hk1 hS => ?_)
                  obtain ⟨κ1_73, hz_74, hP1, hK1, hD1⟩ := hB
                  rw [ht] at hP1
                  obtain ⟨hP, hD⟩ := va_joinP (wr := []) (rx := []) (pl1 := (pq_WD cI cZ cM cT hh ms gv tn tb κ1_73)) hP hD [] [] rfl rfl (by decide) (by decide) hk1 hFc hP1 hD1
                  generalize H1 = H at hP hS ⊢
                  have hP : va_P (dC, dI) vwCl ([] ++ (pq_WD cI cZ cM cT hh ms gv tn tb κ1_73)) H := hP
                  have hD : va_D A ([] ++ (pq_WD cI cZ cM cT hh ms gv tn tb κ1_73)) := hD
                  refine W.widen (k := 0) (n := 0) (Nat.le_of_ble_eq_true rfl) (Nat.le_of_ble_eq_true rfl) ?_
                  obtain rfl : r_72 = zi (pq_av (pq_r T (y + 1).toNat) (3 : Int)) := hw
                  refine pz_top (y := zi (pq_ones (pq_r T y.toNat))) (congrArg zi ((show pq_av (pq_r T (y + 1).toNat) 3 = pq_ones (pq_r T (y + 1).toNat) from rfl).trans (by rw [hoff]))) ?_
                  refine lv_aload_n hx hb dL_isStep_144 rfl (lv_at hl 6 rfl) ?_
                  refine lv_iload_n hx hb dL_isStep_145 rfl (lv_at hl 7 rfl) ?_
                  refine lv_iload_n hx hb dL_isStep_146 rfl (lv_at hl 8 rfl) ?_
                  refine lv_iconst (v := zi 3) hx hb dL_isStep_147 (by decide) ?_
                  have hPc := hP.part (cx := []) [] rfl
                  have hDc := hD.part (cx := []) [] (by decide) rfl
                  have hFc := va_freeP (cx := []) hD hS hA [] rfl
                  refine va_calli (va_runV (As := [.int (zi i), .int (zi y), .int (zi 3)]) (rest := [.int (zi (pq_ones (pq_r T y.toNat)))]) ⟨hx, hb, hml, hown, hts⟩ (c_X7_at l dC dI cI cZ cM cT H.size hh ms gv tn tb κ1_73 i am aw av ax T kk ka kb y 3 (by first | assumption | omega | rfl) hz_74 (by first | assumption | omega | rfl) hμ (by first | assumption | omega | rfl) (by first | assumption | omega | rfl)) (cwV 3 hts (goodIn_of _ (by decide +kernel)) rfl rfl rfl (by decide +kernel) ⟨Nat.le_of_ble_eq_true rfl, Nat.le_of_ble_eq_true rfl⟩) ⟨fun a U g mk q => by obtain ⟨q0, q1, qP, qK, qD⟩ := q; exact ⟨q0, q1, qP, va_K.moved (u := U) (U := U.calling g mk a) (Vm.Alike.refl U.vm) qK, qD⟩, va_recv hK hPc (ci := 6) (q0 := 0) rfl rfl, fun U hU hW => ⟨rfl, by rw [hU], by rw [hU]; exact hPc, va_K.moved hW.alike hK, hDc.weaken (fun _ _ _ _ => trivial)⟩⟩ rfl rfl hl.1 rfl (lv_room (Nat.le_of_ble_eq_true rfl)) dL_isStep_148 ⟨Nat.le_of_ble_eq_true rfl, Nat.le_of_ble_eq_true rfl⟩) hS (fun q _ h => hFc q h) hFc (fun r_75 u t H1 locs ht hvm hw hB hz1 hk1 hS => ?_)
                  obtain ⟨κ1_76, hz_77, hP1, hK1, hD1⟩ := hB
                  rw [ht] at hP1
                  obtain ⟨hP, hD⟩ := va_joinP (wr := []) (rx := []) (pl1 := (pq_WD cI cZ cM cT hh ms gv tn tb κ1_76)) hP hD [] [] rfl rfl (by decide) (by decide) hk1 hFc hP1 hD1
                  generalize H1 = H at hP hS ⊢
                  have hP : va_P (dC, dI) vwCl ([] ++ (pq_WD cI cZ cM cT hh ms gv tn tb κ1_76)) H := hP
                  have hD : va_D A ([] ++ (pq_WD cI cZ cM cT hh ms gv tn tb κ1_76)) := hD
                  refine W.widen (k := 0) (n := 0) (Nat.le_of_ble_eq_true rfl) (Nat.le_of_ble_eq_true rfl) ?_
                  obtain rfl : r_75 = zi (pq_av (pq_r T y.toNat) (3 : Int)) := hw
                  refine pz_top (y := zi (pq_ones (pq_r T y.toNat))) (congrArg zi (rfl)) ?_
                  refine pz_icmp_ne (tgt := 158) hx hb (by omega) dL_isStep_151 (by decide) (fun c_78 => ?_) (fun c_78 => ?_)
                  · exact (c_78 (by omega)).elim
                  · refine lv_iconst (v := zi 1) hx hb dL_isStep_154 (by decide) ?_
                    refine lv_goto (tgt := 159) hx hb dL_isStep_155 (by decide) ?_
                    refine W.widen (k := 0) (n := 0) (Nat.le_of_ble_eq_true rfl) (Nat.le_of_ble_eq_true rfl) ?_
                    exact W.zret (v := (zi 1)) hx hb hr (pz_nar (by first | omega | exact pb_or _)) (fun t ht hW => ⟨⟨(zi 1), (), rfl, rfl, ⟨κ1_76, hz_77, by rw [ht]; exact hP, va_K.moved hW.alike hK, hD⟩⟩, hS.F ht⟩) hS.2.2 dL_isStep_159
          · exact (c_65 (by omega)).elim
        · exact absurd c_64 (by omega)
      · refine lv_iconst (v := zi 1) hx hb dL_isStep_76 (by decide) ?_
        refine lv_goto (tgt := 81) hx hb dL_isStep_77 (by decide) ?_
        have hon : pq_on T (pq_r T y.toNat) := ⟨by omega, fun h => by have h9 := c_60; rw [pq_ca_E h] at h9; omega⟩
        have hgo : pq_r T (y + 1).toNat = pq_go T (pq_r T y.toNat) := hs1.trans (pq_nx_on hon)
        have hat := pq_at hok hon
        have hp1 : pq_p (pq_r T (y + 1).toNat) = pq_p (pq_r T y.toNat) + pq_v T (pq_c (pq_r T y.toNat)) := by rw [hgo]; rfl
        refine lv_istore (lv' := [(8, .int (zi 1)), (7, .int (zi (pq_t (pq_r T y.toNat) (pq_p (pq_r T y.toNat))))), (6, .int (zi (pq_p (pq_r T (y + 1).toNat)))), (5, .int (zi (pq_p (pq_r T y.toNat)))), (4, .int (zi (pq_q (pq_r T y.toNat)))), (3, .int (zi (pq_d (pq_r T y.toNat)))), (0, .ref hh), (1, .int (zi i)), (2, .int (zi y))]) hx hb dL_isStep_81 hl (by decide) rfl (fun ls hl => ?_)
        refine lv_aload_n hx hb dL_isStep_83 rfl (lv_at hl 6 rfl) ?_
        refine lv_iload_n hx hb dL_isStep_84 rfl (lv_at hl 7 rfl) ?_
        refine lv_iload_n hx hb dL_isStep_85 rfl (lv_at hl 8 rfl) ?_
        refine lv_iconst (v := zi 1) hx hb dL_isStep_86 (by decide) ?_
        refine pz_iadd hx hb dL_isStep_87 ?_
        refine lv_iconst (v := zi 0) hx hb dL_isStep_88 (by decide) ?_
        have hPc := hP.part (cx := []) [] rfl
        have hDc := hD.part (cx := []) [] (by decide) rfl
        have hFc := va_freeP (cx := []) hD hS hA [] rfl
        refine va_calli (va_runV (As := [.int (zi i), .int (zi (y + 1)), .int (zi 0)]) (rest := []) ⟨hx, hb, hml, hown, hts⟩ (c_X7_at l dC dI cI cZ cM cT H.size hh ms gv tn tb κ1_58 i am aw av ax T kk ka kb (y + 1) 0 (by first | assumption | omega | rfl) hz_59 (by first | assumption | omega | rfl) hμ (by first | assumption | omega | rfl) (by first | assumption | omega | rfl)) (cwV 3 hts (goodIn_of _ (by decide +kernel)) rfl rfl rfl (by decide +kernel) ⟨Nat.le_of_ble_eq_true rfl, Nat.le_of_ble_eq_true rfl⟩) ⟨fun a U g mk q => by obtain ⟨q0, q1, qP, qK, qD⟩ := q; exact ⟨q0, q1, qP, va_K.moved (u := U) (U := U.calling g mk a) (Vm.Alike.refl U.vm) qK, qD⟩, va_recv hK hPc (ci := 6) (q0 := 0) rfl rfl, fun U hU hW => ⟨rfl, by rw [hU], by rw [hU]; exact hPc, va_K.moved hW.alike hK, hDc.weaken (fun _ _ _ _ => trivial)⟩⟩ rfl rfl hl.1 rfl (lv_room (Nat.le_of_ble_eq_true rfl)) dL_isStep_89 ⟨Nat.le_of_ble_eq_true rfl, Nat.le_of_ble_eq_true rfl⟩) hS (fun q _ h => hFc q h) hFc (fun r_79 u t H1 locs ht hvm hw hB hz1 hk1 hS => ?_)
        obtain ⟨κ1_80, hz_81, hP1, hK1, hD1⟩ := hB
        rw [ht] at hP1
        obtain ⟨hP, hD⟩ := va_joinP (wr := []) (rx := []) (pl1 := (pq_WD cI cZ cM cT hh ms gv tn tb κ1_80)) hP hD [] [] rfl rfl (by decide) (by decide) hk1 hFc hP1 hD1
        generalize H1 = H at hP hS ⊢
        have hP : va_P (dC, dI) vwCl ([] ++ (pq_WD cI cZ cM cT hh ms gv tn tb κ1_80)) H := hP
        have hD : va_D A ([] ++ (pq_WD cI cZ cM cT hh ms gv tn tb κ1_80)) := hD
        refine W.widen (k := 0) (n := 0) (Nat.le_of_ble_eq_true rfl) (Nat.le_of_ble_eq_true rfl) ?_
        obtain rfl : r_79 = zi (pq_av (pq_r T (y + 1).toNat) (0 : Int)) := hw
        refine pz_top (y := zi (pq_d (pq_r T y.toNat) + 1)) (congrArg zi ((show pq_av (pq_r T (y + 1).toNat) 0 = pq_d (pq_r T (y + 1).toNat) from rfl).trans (by rw [hgo]; rfl))) ?_
        refine lv_iload_n hx hb dL_isStep_92 rfl (lv_at hl 5 rfl) ?_
        refine lv_iload hx hb dL_isStep_93 (lv_at hl 0 rfl) ?_
        refine pz_if_eq (tgt := 102) hx hb (by omega) dL_isStep_95 (by decide) (fun c_82 => ?_) (fun c_82 => ?_)
        · exact absurd c_82 (by omega)
        · refine lv_iconst (v := zi 1) hx hb dL_isStep_98 (by decide) ?_
          refine lv_goto (tgt := 103) hx hb dL_isStep_99 (by decide) ?_
          refine pz_iadd hx hb dL_isStep_103 ?_
          refine pz_icmp_eq (tgt := 109) hx hb (by omega) dL_isStep_104 (by decide) (fun c_83 => ?_) (fun c_83 => ?_)
          · refine lv_iload hx hb dL_isStep_109 (lv_at hl 0 rfl) ?_
            refine pz_if_ne (tgt := 160) hx hb (by omega) dL_isStep_111 (by decide) (fun c_84 => ?_) (fun c_84 => ?_)
            · refine lv_aload_n hx hb dL_isStep_160 rfl (lv_at hl 6 rfl) ?_
              refine lv_iload_n hx hb dL_isStep_161 rfl (lv_at hl 7 rfl) ?_
              refine lv_iload hx hb dL_isStep_162 (lv_at hl 4 rfl) ?_
              refine lv_iload hx hb dL_isStep_164 (lv_at hl 1 rfl) ?_
              refine lv_iconst (v := zi 0) hx hb dL_isStep_166 (by decide) ?_
              have hPc := hP.part (cx := []) [] rfl
              have hDc := hD.part (cx := []) [] (by decide) rfl
              have hFc := va_freeP (cx := []) hD hS hA [] rfl
              refine va_calli (va_runV (As := [.int (zi i), .int (zi (pq_q (pq_r T y.toNat))), .int (zi (pq_t (pq_r T y.toNat) (pq_p (pq_r T y.toNat)))), .int (zi 0)]) (rest := []) ⟨hx, hb, hml, hown, hts⟩ (c_X7_cell l dC dI cI cZ cM cT H.size hh ms gv tn tb κ1_80 i am aw av ax T kk ka kb (pq_q (pq_r T y.toNat)) (pq_t (pq_r T y.toNat) (pq_p (pq_r T y.toNat))) 0 (by first | assumption | omega | rfl) hz_81 (by first | assumption | omega | rfl) hμ (by first | assumption | omega | rfl) h01 (by first | assumption | omega | rfl)) (cwV 4 hts (goodIn_of _ (by decide +kernel)) rfl rfl rfl (by decide +kernel) ⟨Nat.le_of_ble_eq_true rfl, Nat.le_of_ble_eq_true rfl⟩) ⟨fun a U g mk q => by obtain ⟨q0, q1, qP, qK, qD⟩ := q; exact ⟨q0, q1, qP, va_K.moved (u := U) (U := U.calling g mk a) (Vm.Alike.refl U.vm) qK, qD⟩, va_recv hK hPc (ci := 6) (q0 := 0) rfl rfl, fun U hU hW => ⟨rfl, by rw [hU], by rw [hU]; exact hPc, va_K.moved hW.alike hK, hDc.weaken (fun _ _ _ _ => trivial)⟩⟩ rfl rfl hl.1 rfl (lv_room (Nat.le_of_ble_eq_true rfl)) dL_isStep_167 ⟨Nat.le_of_ble_eq_true rfl, Nat.le_of_ble_eq_true rfl⟩) hS (fun q _ h => hFc q h) hFc (fun r_85 u t H1 locs ht hvm hw hB hz1 hk1 hS => ?_)
              obtain ⟨κ1_86, hz_87, hP1, hK1, hD1⟩ := hB
              rw [ht] at hP1
              obtain ⟨hP, hD⟩ := va_joinP (wr := []) (rx := []) (pl1 := (pq_WD cI cZ cM cT hh ms gv tn tb κ1_86)) hP hD [] [] rfl rfl (by decide) (by decide) hk1 hFc hP1 hD1
              generalize H1 = H at hP hS ⊢
              have hP : va_P (dC, dI) vwCl ([] ++ (pq_WD cI cZ cM cT hh ms gv tn tb κ1_86)) H := hP
              have hD : va_D A ([] ++ (pq_WD cI cZ cM cT hh ms gv tn tb κ1_86)) := hD
              refine W.widen (k := 0) (n := 0) (Nat.le_of_ble_eq_true rfl) (Nat.le_of_ble_eq_true rfl) ?_
              obtain rfl : r_85 = zi (pq_ca T (2 * (pq_q (pq_r T y.toNat)) + (pq_t (pq_r T y.toNat) (pq_p (pq_r T y.toNat)))) (0 : Int)) := hw
              refine pz_top (y := zi (pq_w T (pq_c (pq_r T y.toNat)))) (congrArg zi (pq_ca_0 hon.2)) ?_
              refine lv_istore (lv' := [(9, .int (zi (pq_w T (pq_c (pq_r T y.toNat))))), (8, .int (zi 1)), (7, .int (zi (pq_t (pq_r T y.toNat) (pq_p (pq_r T y.toNat))))), (6, .int (zi (pq_p (pq_r T (y + 1).toNat)))), (5, .int (zi (pq_p (pq_r T y.toNat)))), (4, .int (zi (pq_q (pq_r T y.toNat)))), (3, .int (zi (pq_d (pq_r T y.toNat)))), (0, .ref hh), (1, .int (zi i)), (2, .int (zi y))]) hx hb dL_isStep_170 hl (by decide) rfl (fun ls hl => ?_)
              refine lv_aload_n hx hb dL_isStep_172 rfl (lv_at hl 7 rfl) ?_
              refine lv_iload_n hx hb dL_isStep_173 rfl (lv_at hl 8 rfl) ?_
              refine lv_iload hx hb dL_isStep_174 (lv_at hl 5 rfl) ?_
              refine lv_iload hx hb dL_isStep_176 (lv_at hl 2 rfl) ?_
              refine lv_iconst (v := zi 1) hx hb dL_isStep_178 (by decide) ?_
              have hPc := hP.part (cx := []) [] rfl
              have hDc := hD.part (cx := []) [] (by decide) rfl
              have hFc := va_freeP (cx := []) hD hS hA [] rfl
              refine va_calli (va_runV (As := [.int (zi i), .int (zi (pq_q (pq_r T y.toNat))), .int (zi (pq_t (pq_r T y.toNat) (pq_p (pq_r T y.toNat)))), .int (zi 1)]) (rest := []) ⟨hx, hb, hml, hown, hts⟩ (c_X7_cell l dC dI cI cZ cM cT H.size hh ms gv tn tb κ1_86 i am aw av ax T kk ka kb (pq_q (pq_r T y.toNat)) (pq_t (pq_r T y.toNat) (pq_p (pq_r T y.toNat))) 1 (by first | assumption | omega | rfl) hz_87 (by first | assumption | omega | rfl) hμ (by first | assumption | omega | rfl) h01 (by first | assumption | omega | rfl)) (cwV 4 hts (goodIn_of _ (by decide +kernel)) rfl rfl rfl (by decide +kernel) ⟨Nat.le_of_ble_eq_true rfl, Nat.le_of_ble_eq_true rfl⟩) ⟨fun a U g mk q => by obtain ⟨q0, q1, qP, qK, qD⟩ := q; exact ⟨q0, q1, qP, va_K.moved (u := U) (U := U.calling g mk a) (Vm.Alike.refl U.vm) qK, qD⟩, va_recv hK hPc (ci := 6) (q0 := 0) rfl rfl, fun U hU hW => ⟨rfl, by rw [hU], by rw [hU]; exact hPc, va_K.moved hW.alike hK, hDc.weaken (fun _ _ _ _ => trivial)⟩⟩ rfl rfl hl.1 rfl (lv_room (Nat.le_of_ble_eq_true rfl)) dL_isStep_179 ⟨Nat.le_of_ble_eq_true rfl, Nat.le_of_ble_eq_true rfl⟩) hS (fun q _ h => hFc q h) hFc (fun r_88 u t H1 locs ht hvm hw hB hz1 hk1 hS => ?_)
              obtain ⟨κ1_89, hz_90, hP1, hK1, hD1⟩ := hB
              rw [ht] at hP1
              obtain ⟨hP, hD⟩ := va_joinP (wr := []) (rx := []) (pl1 := (pq_WD cI cZ cM cT hh ms gv tn tb κ1_89)) hP hD [] [] rfl rfl (by decide) (by decide) hk1 hFc hP1 hD1
              generalize H1 = H at hP hS ⊢
              have hP : va_P (dC, dI) vwCl ([] ++ (pq_WD cI cZ cM cT hh ms gv tn tb κ1_89)) H := hP
              have hD : va_D A ([] ++ (pq_WD cI cZ cM cT hh ms gv tn tb κ1_89)) := hD
              refine W.widen (k := 0) (n := 0) (Nat.le_of_ble_eq_true rfl) (Nat.le_of_ble_eq_true rfl) ?_
              obtain rfl : r_88 = zi (pq_ca T (2 * (pq_q (pq_r T y.toNat)) + (pq_t (pq_r T y.toNat) (pq_p (pq_r T y.toNat)))) (1 : Int)) := hw
              refine pz_top (y := zi (max (pq_v T (pq_c (pq_r T y.toNat))) 0)) (congrArg zi (pq_ca_1 hon.2)) ?_
              refine lv_iconst (v := zi 1) hx hb dL_isStep_182 (by decide) ?_
              refine pz_icmp_ne (tgt := 190) hx hb (by omega) dL_isStep_183 (by decide) (fun c_91 => ?_) (fun c_91 => ?_)
              · refine lv_iconst (v := zi (-1)) hx hb dL_isStep_190 (by decide) ?_
                refine lv_istore (lv' := [(10, .int (zi (-1))), (9, .int (zi (pq_w T (pq_c (pq_r T y.toNat))))), (8, .int (zi 1)), (7, .int (zi (pq_t (pq_r T y.toNat) (pq_p (pq_r T y.toNat))))), (6, .int (zi (pq_p (pq_r T (y + 1).toNat)))), (5, .int (zi (pq_p (pq_r T y.toNat)))), (4, .int (zi (pq_q (pq_r T y.toNat)))), (3, .int (zi (pq_d (pq_r T y.toNat)))), (0, .ref hh), (1, .int (zi i)), (2, .int (zi y))]) hx hb dL_isStep_191 hl (by decide) rfl (fun ls hl => ?_)
                refine lv_iload hx hb dL_isStep_193 (lv_at hl 4 rfl) ?_
                refine lv_iload hx hb dL_isStep_195 (lv_at hl 5 rfl) ?_
                refine lv_iload hx hb dL_isStep_197 (lv_at hl 0 rfl) ?_
                refine pz_iadd hx hb dL_isStep_199 ?_
                refine pz_icmp_ne (tgt := 265) hx hb (by omega) dL_isStep_200 (by decide) (fun c_92 => ?_) (fun c_92 => ?_)
                · exact (c_92 (by omega)).elim
                · refine lv_aload_n hx hb dL_isStep_203 rfl (lv_at hl 8 rfl) ?_
                  refine lv_iload_n hx hb dL_isStep_204 rfl (lv_at hl 9 rfl) ?_
                  refine lv_iload_n hx hb dL_isStep_205 rfl (lv_at hl 10 rfl) ?_
                  refine lv_iconst (v := zi 1) hx hb dL_isStep_206 (by decide) ?_
                  refine pz_iadd hx hb dL_isStep_207 ?_
                  refine lv_iconst (v := zi 1) hx hb dL_isStep_208 (by decide) ?_
                  have hPc := hP.part (cx := []) [] rfl
                  have hDc := hD.part (cx := []) [] (by decide) rfl
                  have hFc := va_freeP (cx := []) hD hS hA [] rfl
                  refine va_calli (va_runV (As := [.int (zi i), .int (zi (y + 1)), .int (zi 1)]) (rest := []) ⟨hx, hb, hml, hown, hts⟩ (c_X7_at l dC dI cI cZ cM cT H.size hh ms gv tn tb κ1_89 i am aw av ax T kk ka kb (y + 1) 1 (by first | assumption | omega | rfl) hz_90 (by first | assumption | omega | rfl) hμ (by first | assumption | omega | rfl) (by first | assumption | omega | rfl)) (cwV 3 hts (goodIn_of _ (by decide +kernel)) rfl rfl rfl (by decide +kernel) ⟨Nat.le_of_ble_eq_true rfl, Nat.le_of_ble_eq_true rfl⟩) ⟨fun a U g mk q => by obtain ⟨q0, q1, qP, qK, qD⟩ := q; exact ⟨q0, q1, qP, va_K.moved (u := U) (U := U.calling g mk a) (Vm.Alike.refl U.vm) qK, qD⟩, va_recv hK hPc (ci := 6) (q0 := 0) rfl rfl, fun U hU hW => ⟨rfl, by rw [hU], by rw [hU]; exact hPc, va_K.moved hW.alike hK, hDc.weaken (fun _ _ _ _ => trivial)⟩⟩ rfl rfl hl.1 rfl (lv_room (Nat.le_of_ble_eq_true rfl)) dL_isStep_209 ⟨Nat.le_of_ble_eq_true rfl, Nat.le_of_ble_eq_true rfl⟩) hS (fun q _ h => hFc q h) hFc (fun r_93 u t H1 locs ht hvm hw hB hz1 hk1 hS => ?_)
                  obtain ⟨κ1_94, hz_95, hP1, hK1, hD1⟩ := hB
                  rw [ht] at hP1
                  obtain ⟨hP, hD⟩ := va_joinP (wr := []) (rx := []) (pl1 := (pq_WD cI cZ cM cT hh ms gv tn tb κ1_94)) hP hD [] [] rfl rfl (by decide) (by decide) hk1 hFc hP1 hD1
                  generalize H1 = H at hP hS ⊢
                  have hP : va_P (dC, dI) vwCl ([] ++ (pq_WD cI cZ cM cT hh ms gv tn tb κ1_94)) H := hP
                  have hD : va_D A ([] ++ (pq_WD cI cZ cM cT hh ms gv tn tb κ1_94)) := hD
                  refine W.widen (k := 0) (n := 0) (Nat.le_of_ble_eq_true rfl) (Nat.le_of_ble_eq_true rfl) ?_
                  obtain rfl : r_93 = zi (pq_av (pq_r T (y + 1).toNat) (1 : Int)) := hw
                  refine pz_top (y := zi (pq_x T (pq_c (pq_r T y.toNat)))) (congrArg zi ((show pq_av (pq_r T (y + 1).toNat) 1 = pq_q (pq_r T (y + 1).toNat) from rfl).trans (by rw [hgo]; rfl))) ?_
                  refine lv_aload_n hx hb dL_isStep_212 rfl (lv_at hl 8 rfl) ?_
                  refine lv_iload_n hx hb dL_isStep_213 rfl (lv_at hl 9 rfl) ?_
                  refine lv_iload hx hb dL_isStep_214 (lv_at hl 6 rfl) ?_
                  refine lv_iload hx hb dL_isStep_216 (lv_at hl 3 rfl) ?_
                  refine lv_iconst (v := zi 2) hx hb dL_isStep_218 (by decide) ?_
                  have hPc := hP.part (cx := []) [] rfl
                  have hDc := hD.part (cx := []) [] (by decide) rfl
                  have hFc := va_freeP (cx := []) hD hS hA [] rfl
                  refine va_calli (va_runV (As := [.int (zi i), .int (zi (pq_q (pq_r T y.toNat))), .int (zi (pq_t (pq_r T y.toNat) (pq_p (pq_r T y.toNat)))), .int (zi 2)]) (rest := [.int (zi (pq_x T (pq_c (pq_r T y.toNat))))]) ⟨hx, hb, hml, hown, hts⟩ (c_X7_cell l dC dI cI cZ cM cT H.size hh ms gv tn tb κ1_94 i am aw av ax T kk ka kb (pq_q (pq_r T y.toNat)) (pq_t (pq_r T y.toNat) (pq_p (pq_r T y.toNat))) 2 (by first | assumption | omega | rfl) hz_95 (by first | assumption | omega | rfl) hμ (by first | assumption | omega | rfl) h01 (by first | assumption | omega | rfl)) (cwV 4 hts (goodIn_of _ (by decide +kernel)) rfl rfl rfl (by decide +kernel) ⟨Nat.le_of_ble_eq_true rfl, Nat.le_of_ble_eq_true rfl⟩) ⟨fun a U g mk q => by obtain ⟨q0, q1, qP, qK, qD⟩ := q; exact ⟨q0, q1, qP, va_K.moved (u := U) (U := U.calling g mk a) (Vm.Alike.refl U.vm) qK, qD⟩, va_recv hK hPc (ci := 6) (q0 := 0) rfl rfl, fun U hU hW => ⟨rfl, by rw [hU], by rw [hU]; exact hPc, va_K.moved hW.alike hK, hDc.weaken (fun _ _ _ _ => trivial)⟩⟩ rfl rfl hl.1 rfl (lv_room (Nat.le_of_ble_eq_true rfl)) dL_isStep_219 ⟨Nat.le_of_ble_eq_true rfl, Nat.le_of_ble_eq_true rfl⟩) hS (fun q _ h => hFc q h) hFc (fun r_96 u t H1 locs ht hvm hw hB hz1 hk1 hS => ?_)
                  obtain ⟨κ1_97, hz_98, hP1, hK1, hD1⟩ := hB
                  rw [ht] at hP1
                  obtain ⟨hP, hD⟩ := va_joinP (wr := []) (rx := []) (pl1 := (pq_WD cI cZ cM cT hh ms gv tn tb κ1_97)) hP hD [] [] rfl rfl (by decide) (by decide) hk1 hFc hP1 hD1
                  generalize H1 = H at hP hS ⊢
                  have hP : va_P (dC, dI) vwCl ([] ++ (pq_WD cI cZ cM cT hh ms gv tn tb κ1_97)) H := hP
                  have hD : va_D A ([] ++ (pq_WD cI cZ cM cT hh ms gv tn tb κ1_97)) := hD
                  refine W.widen (k := 0) (n := 0) (Nat.le_of_ble_eq_true rfl) (Nat.le_of_ble_eq_true rfl) ?_
                  obtain rfl : r_96 = zi (pq_ca T (2 * (pq_q (pq_r T y.toNat)) + (pq_t (pq_r T y.toNat) (pq_p (pq_r T y.toNat)))) (2 : Int)) := hw
                  refine pz_top (y := zi (pq_x T (pq_c (pq_r T y.toNat)))) (congrArg zi (pq_ca_2 hon.2)) ?_
                  refine pz_icmp_ne (tgt := 265) hx hb (by omega) dL_isStep_222 (by decide) (fun c_99 => ?_) (fun c_99 => ?_)
                  · exact (c_99 (by omega)).elim
                  · refine lv_aload_n hx hb dL_isStep_225 rfl (lv_at hl 8 rfl) ?_
                    refine lv_iload_n hx hb dL_isStep_226 rfl (lv_at hl 9 rfl) ?_
                    refine lv_iload_n hx hb dL_isStep_227 rfl (lv_at hl 10 rfl) ?_
                    refine lv_iconst (v := zi 1) hx hb dL_isStep_228 (by decide) ?_
                    refine pz_iadd hx hb dL_isStep_229 ?_
                    refine lv_iload hx hb dL_isStep_230 (lv_at hl 5 rfl) ?_
                    have hPc := hP.part (cx := []) [] rfl
                    have hDc := hD.part (cx := []) [] (by decide) rfl
                    have hFc := va_freeP (cx := []) hD hS hA [] rfl
                    refine va_calli (va_runV (As := [.int (zi i), .int (zi (y + 1)), .int (zi (pq_p (pq_r T y.toNat)))]) (rest := []) ⟨hx, hb, hml, hown, hts⟩ (c_X7_symbol l dC dI cI cZ cM cT H.size hh ms gv tn tb κ1_97 i am aw av ax T kk ka kb (y + 1) (pq_p (pq_r T y.toNat)) (by first | assumption | omega | rfl) hz_98 (by first | assumption | omega | rfl) hμ (by first | assumption | omega | rfl) (by first | assumption | omega | rfl)) (cwV 3 hts (goodIn_of _ (by decide +kernel)) rfl rfl rfl (by decide +kernel) ⟨Nat.le_of_ble_eq_true rfl, Nat.le_of_ble_eq_true rfl⟩) ⟨fun a U g mk q => by obtain ⟨q0, q1, qP, qK, qD⟩ := q; exact ⟨q0, q1, qP, va_K.moved (u := U) (U := U.calling g mk a) (Vm.Alike.refl U.vm) qK, qD⟩, va_recv hK hPc (ci := 6) (q0 := 0) rfl rfl, fun U hU hW => ⟨rfl, by rw [hU], by rw [hU]; exact hPc, va_K.moved hW.alike hK, hDc.weaken (fun _ _ _ _ => trivial)⟩⟩ rfl rfl hl.1 rfl (lv_room (Nat.le_of_ble_eq_true rfl)) dL_isStep_232 ⟨Nat.le_of_ble_eq_true rfl, Nat.le_of_ble_eq_true rfl⟩) hS (fun q _ h => hFc q h) hFc (fun r_100 u t H1 locs ht hvm hw hB hz1 hk1 hS => ?_)
                    obtain ⟨κ1_101, hz_102, hP1, hK1, hD1⟩ := hB
                    rw [ht] at hP1
                    obtain ⟨hP, hD⟩ := va_joinP (wr := []) (rx := []) (pl1 := (pq_WD cI cZ cM cT hh ms gv tn tb κ1_101)) hP hD [] [] rfl rfl (by decide) (by decide) hk1 hFc hP1 hD1
                    generalize H1 = H at hP hS ⊢
                    have hP : va_P (dC, dI) vwCl ([] ++ (pq_WD cI cZ cM cT hh ms gv tn tb κ1_101)) H := hP
                    have hD : va_D A ([] ++ (pq_WD cI cZ cM cT hh ms gv tn tb κ1_101)) := hD
                    refine W.widen (k := 0) (n := 0) (Nat.le_of_ble_eq_true rfl) (Nat.le_of_ble_eq_true rfl) ?_
                    obtain rfl : r_100 = zi (pq_t (pq_r T (y + 1).toNat) (pq_p (pq_r T y.toNat))) := hw
                    refine pz_top (y := zi (pq_w T (pq_c (pq_r T y.toNat)))) (congrArg zi ((by rw [hgo, pq_t_go]; exact pq_up_self _ _ _))) ?_
                    refine lv_iload hx hb dL_isStep_235 (lv_at hl 1 rfl) ?_
                    refine pz_icmp_ne (tgt := 265) hx hb (by omega) dL_isStep_237 (by decide) (fun c_103 => ?_) (fun c_103 => ?_)
                    · exact (c_103 (by omega)).elim
                    · refine lv_aload_n hx hb dL_isStep_240 rfl (lv_at hl 8 rfl) ?_
                      refine lv_iload_n hx hb dL_isStep_241 rfl (lv_at hl 9 rfl) ?_
                      refine lv_iload_n hx hb dL_isStep_242 rfl (lv_at hl 10 rfl) ?_
                      refine lv_iconst (v := zi 1) hx hb dL_isStep_243 (by decide) ?_
                      refine pz_iadd hx hb dL_isStep_244 ?_
                      refine lv_iconst (v := zi 3) hx hb dL_isStep_245 (by decide) ?_
                      have hPc := hP.part (cx := []) [] rfl
                      have hDc := hD.part (cx := []) [] (by decide) rfl
                      have hFc := va_freeP (cx := []) hD hS hA [] rfl
                      refine va_calli (va_runV (As := [.int (zi i), .int (zi (y + 1)), .int (zi 3)]) (rest := []) ⟨hx, hb, hml, hown, hts⟩ (c_X7_at l dC dI cI cZ cM cT H.size hh ms gv tn tb κ1_101 i am aw av ax T kk ka kb (y + 1) 3 (by first | assumption | omega | rfl) hz_102 (by first | assumption | omega | rfl) hμ (by first | assumption | omega | rfl) (by first | assumption | omega | rfl)) (cwV 3 hts (goodIn_of _ (by decide +kernel)) rfl rfl rfl (by decide +kernel) ⟨Nat.le_of_ble_eq_true rfl, Nat.le_of_ble_eq_true rfl⟩) ⟨fun a U g mk q => by obtain ⟨q0, q1, qP, qK, qD⟩ := q; exact ⟨q0, q1, qP, va_K.moved (u := U) (U := U.calling g mk a) (Vm.Alike.refl U.vm) qK, qD⟩, va_recv hK hPc (ci := 6) (q0 := 0) rfl rfl, fun U hU hW => ⟨rfl, by rw [hU], by rw [hU]; exact hPc, va_K.moved hW.alike hK, hDc.weaken (fun _ _ _ _ => trivial)⟩⟩ rfl rfl hl.1 rfl (lv_room (Nat.le_of_ble_eq_true rfl)) dL_isStep_246 ⟨Nat.le_of_ble_eq_true rfl, Nat.le_of_ble_eq_true rfl⟩) hS (fun q _ h => hFc q h) hFc (fun r_104 u t H1 locs ht hvm hw hB hz1 hk1 hS => ?_)
                      obtain ⟨κ1_105, hz_106, hP1, hK1, hD1⟩ := hB
                      rw [ht] at hP1
                      obtain ⟨hP, hD⟩ := va_joinP (wr := []) (rx := []) (pl1 := (pq_WD cI cZ cM cT hh ms gv tn tb κ1_105)) hP hD [] [] rfl rfl (by decide) (by decide) hk1 hFc hP1 hD1
                      generalize H1 = H at hP hS ⊢
                      have hP : va_P (dC, dI) vwCl ([] ++ (pq_WD cI cZ cM cT hh ms gv tn tb κ1_105)) H := hP
                      have hD : va_D A ([] ++ (pq_WD cI cZ cM cT hh ms gv tn tb κ1_105)) := hD
                      refine W.widen (k := 0) (n := 0) (Nat.le_of_ble_eq_true rfl) (Nat.le_of_ble_eq_true rfl) ?_
                      obtain rfl : r_104 = zi (pq_av (pq_r T (y + 1).toNat) (3 : Int)) := hw
                      refine pz_top (y := zi (pq_ones (pq_r T y.toNat) + pq_w T (pq_c (pq_r T y.toNat)) - pq_t (pq_r T y.toNat) (pq_p (pq_r T y.toNat)))) (congrArg zi ((show pq_av (pq_r T (y + 1).toNat) 3 = pq_ones (pq_r T (y + 1).toNat) from rfl).trans (by rw [hgo]; exact pq_ones_go hok hwf hon))) ?_
                      refine lv_aload_n hx hb dL_isStep_249 rfl (lv_at hl 8 rfl) ?_
                      refine lv_iload_n hx hb dL_isStep_250 rfl (lv_at hl 9 rfl) ?_
                      refine lv_iload_n hx hb dL_isStep_251 rfl (lv_at hl 10 rfl) ?_
                      refine lv_iconst (v := zi 3) hx hb dL_isStep_252 (by decide) ?_
                      have hPc := hP.part (cx := []) [] rfl
                      have hDc := hD.part (cx := []) [] (by decide) rfl
                      have hFc := va_freeP (cx := []) hD hS hA [] rfl
                      refine va_calli (va_runV (As := [.int (zi i), .int (zi y), .int (zi 3)]) (rest := [.int (zi (pq_ones (pq_r T y.toNat) + pq_w T (pq_c (pq_r T y.toNat)) - pq_t (pq_r T y.toNat) (pq_p (pq_r T y.toNat))))]) ⟨hx, hb, hml, hown, hts⟩ (c_X7_at l dC dI cI cZ cM cT H.size hh ms gv tn tb κ1_105 i am aw av ax T kk ka kb y 3 (by first | assumption | omega | rfl) hz_106 (by first | assumption | omega | rfl) hμ (by first | assumption | omega | rfl) (by first | assumption | omega | rfl)) (cwV 3 hts (goodIn_of _ (by decide +kernel)) rfl rfl rfl (by decide +kernel) ⟨Nat.le_of_ble_eq_true rfl, Nat.le_of_ble_eq_true rfl⟩) ⟨fun a U g mk q => by obtain ⟨q0, q1, qP, qK, qD⟩ := q; exact ⟨q0, q1, qP, va_K.moved (u := U) (U := U.calling g mk a) (Vm.Alike.refl U.vm) qK, qD⟩, va_recv hK hPc (ci := 6) (q0 := 0) rfl rfl, fun U hU hW => ⟨rfl, by rw [hU], by rw [hU]; exact hPc, va_K.moved hW.alike hK, hDc.weaken (fun _ _ _ _ => trivial)⟩⟩ rfl rfl hl.1 rfl (lv_room (Nat.le_of_ble_eq_true rfl)) dL_isStep_253 ⟨Nat.le_of_ble_eq_true rfl, Nat.le_of_ble_eq_true rfl⟩) hS (fun q _ h => hFc q h) hFc (fun r_107 u t H1 locs ht hvm hw hB hz1 hk1 hS => ?_)
                      obtain ⟨κ1_108, hz_109, hP1, hK1, hD1⟩ := hB
                      rw [ht] at hP1
                      obtain ⟨hP, hD⟩ := va_joinP (wr := []) (rx := []) (pl1 := (pq_WD cI cZ cM cT hh ms gv tn tb κ1_108)) hP hD [] [] rfl rfl (by decide) (by decide) hk1 hFc hP1 hD1
                      generalize H1 = H at hP hS ⊢
                      have hP : va_P (dC, dI) vwCl ([] ++ (pq_WD cI cZ cM cT hh ms gv tn tb κ1_108)) H := hP
                      have hD : va_D A ([] ++ (pq_WD cI cZ cM cT hh ms gv tn tb κ1_108)) := hD
                      refine W.widen (k := 0) (n := 0) (Nat.le_of_ble_eq_true rfl) (Nat.le_of_ble_eq_true rfl) ?_
                      obtain rfl : r_107 = zi (pq_av (pq_r T y.toNat) (3 : Int)) := hw
                      refine pz_top (y := zi (pq_ones (pq_r T y.toNat))) (congrArg zi (rfl)) ?_
                      refine lv_iload hx hb dL_isStep_256 (lv_at hl 1 rfl) ?_
                      refine pz_iadd hx hb dL_isStep_258 ?_
                      refine lv_iload hx hb dL_isStep_259 (lv_at hl 3 rfl) ?_
                      refine pz_isub hx hb dL_isStep_261 ?_
                      refine pz_icmp_eq (tgt := 267) hx hb (by omega) dL_isStep_262 (by decide) (fun c_110 => ?_) (fun c_110 => ?_)
                      · refine lv_bipush (v := zi (-9)) hx hb dL_isStep_267 (by decide) ?_
                        refine lv_istore (lv' := [(11, .int (zi (-9))), (10, .int (zi (-1))), (9, .int (zi (pq_w T (pq_c (pq_r T y.toNat))))), (8, .int (zi 1)), (7, .int (zi (pq_t (pq_r T y.toNat) (pq_p (pq_r T y.toNat))))), (6, .int (zi (pq_p (pq_r T (y + 1).toNat)))), (5, .int (zi (pq_p (pq_r T y.toNat)))), (4, .int (zi (pq_q (pq_r T y.toNat)))), (3, .int (zi (pq_d (pq_r T y.toNat)))), (0, .ref hh), (1, .int (zi i)), (2, .int (zi y))]) hx hb dL_isStep_269 hl (by decide) rfl (fun ls hl => ?_)
                        refine pz_loop (fun n9 H locs ls => ∃ (j : Int) (κ2 : pq_S) , n9 = (10 - j).toNat ∧ (-9 ≤ j ∧ j ≤ 10) ∧ (pq_Sok κ2) ∧ va_P (dC, dI) vwCl ([] ++ (pq_WD cI cZ cM cT hh ms gv tn tb κ2)) H ∧ va_D A ([] ++ (pq_WD cI cZ cM cT hh ms gv tn tb κ2)) ∧ va_S A s.heap H locs ∧ lv_has ls 15 [(10, .int (zi (-1))), (9, .int (zi (pq_w T (pq_c (pq_r T y.toNat))))), (8, .int (zi 1)), (7, .int (zi (pq_t (pq_r T y.toNat) (pq_p (pq_r T y.toNat))))), (6, .int (zi (pq_p (pq_r T (y + 1).toNat)))), (5, .int (zi (pq_p (pq_r T y.toNat)))), (4, .int (zi (pq_q (pq_r T y.toNat)))), (3, .int (zi (pq_d (pq_r T y.toNat)))), (0, .ref hh), (1, .int (zi i)), (2, .int (zi y)), (11, .int (zi j))]) (fun n_271 H locs ls hI ih_271 => ?_) _ ⟨-9, κ1_108, rfl, (by first | assumption | omega | rfl), hz_109, hP, hD, hS, lv_sub hl [1, 2, 3, 4, 5, 6, 7, 8, 9, 10, 11, 0] rfl⟩
                        obtain ⟨j, κ2, hn_271, hj, hκ2, hP, hD, hS, hl⟩ := hI
                        refine lv_iload hx hb dL_isStep_271 (lv_at hl 11 rfl) ?_
                        refine lv_bipush (v := zi 10) hx hb dL_isStep_273 (by decide) ?_
                        refine pz_icmp_ge (tgt := 314) hx hb (by omega) dL_isStep_275 (by decide) (fun c_111 => ?_) (fun c_111 => ?_)
                        · refine lv_aload_n hx hb dL_isStep_314 rfl (lv_at hl 8 rfl) ?_
                          refine lv_iload_n hx hb dL_isStep_315 rfl (lv_at hl 9 rfl) ?_
                          refine lv_iload_n hx hb dL_isStep_316 rfl (lv_at hl 10 rfl) ?_
                          refine lv_iconst (v := zi 5) hx hb dL_isStep_317 (by decide) ?_
                          have hPc := hP.part (cx := []) [] rfl
                          have hDc := hD.part (cx := []) [] (by decide) rfl
                          have hFc := va_freeP (cx := []) hD hS hA [] rfl
                          refine va_calli (va_runV (As := [.int (zi i), .int (zi y), .int (zi 5)]) (rest := []) ⟨hx, hb, hml, hown, hts⟩ (c_X7_at l dC dI cI cZ cM cT H.size hh ms gv tn tb κ2 i am aw av ax T kk ka kb y 5 (by first | assumption | omega | rfl) hκ2 (by first | assumption | omega | rfl) hμ (by first | assumption | omega | rfl) (by first | assumption | omega | rfl)) (cwV 3 hts (goodIn_of _ (by decide +kernel)) rfl rfl rfl (by decide +kernel) ⟨Nat.le_of_ble_eq_true rfl, Nat.le_of_ble_eq_true rfl⟩) ⟨fun a U g mk q => by obtain ⟨q0, q1, qP, qK, qD⟩ := q; exact ⟨q0, q1, qP, va_K.moved (u := U) (U := U.calling g mk a) (Vm.Alike.refl U.vm) qK, qD⟩, va_recv hK hPc (ci := 6) (q0 := 0) rfl rfl, fun U hU hW => ⟨rfl, by rw [hU], by rw [hU]; exact hPc, va_K.moved hW.alike hK, hDc.weaken (fun _ _ _ _ => trivial)⟩⟩ rfl rfl hl.1 rfl (lv_room (Nat.le_of_ble_eq_true rfl)) dL_isStep_318 ⟨Nat.le_of_ble_eq_true rfl, Nat.le_of_ble_eq_true rfl⟩) hS (fun q _ h => hFc q h) hFc (fun r_112 u t H1 locs ht hvm hw hB hz1 hk1 hS => ?_)
                          obtain ⟨κ1_113, hz_114, hP1, hK1, hD1⟩ := hB
                          rw [ht] at hP1
                          obtain ⟨hP, hD⟩ := va_joinP (wr := []) (rx := []) (pl1 := (pq_WD cI cZ cM cT hh ms gv tn tb κ1_113)) hP hD [] [] rfl rfl (by decide) (by decide) hk1 hFc hP1 hD1
                          generalize H1 = H at hP hS ⊢
                          have hP : va_P (dC, dI) vwCl ([] ++ (pq_WD cI cZ cM cT hh ms gv tn tb κ1_113)) H := hP
                          have hD : va_D A ([] ++ (pq_WD cI cZ cM cT hh ms gv tn tb κ1_113)) := hD
                          refine W.widen (k := 0) (n := 0) (Nat.le_of_ble_eq_true rfl) (Nat.le_of_ble_eq_true rfl) ?_
                          obtain rfl : r_112 = zi (pq_av (pq_r T y.toNat) (5 : Int)) := hw
                          refine pz_top (y := zi (pq_l (pq_r T y.toNat))) (congrArg zi (rfl)) ?_
                          refine lv_istore (lv' := [(11, .int (zi (pq_l (pq_r T y.toNat)))), (10, .int (zi (-1))), (9, .int (zi (pq_w T (pq_c (pq_r T y.toNat))))), (8, .int (zi 1)), (7, .int (zi (pq_t (pq_r T y.toNat) (pq_p (pq_r T y.toNat))))), (6, .int (zi (pq_p (pq_r T (y + 1).toNat)))), (5, .int (zi (pq_p (pq_r T y.toNat)))), (4, .int (zi (pq_q (pq_r T y.toNat)))), (3, .int (zi (pq_d (pq_r T y.toNat)))), (0, .ref hh), (1, .int (zi i)), (2, .int (zi y))]) hx hb dL_isStep_321 hl (by decide) rfl (fun ls hl => ?_)
                          refine lv_aload_n hx hb dL_isStep_323 rfl (lv_at hl 9 rfl) ?_
                          refine lv_iload_n hx hb dL_isStep_324 rfl (lv_at hl 10 rfl) ?_
                          refine lv_iload_n hx hb dL_isStep_325 rfl (lv_at hl 11 rfl) ?_
                          refine lv_bipush (v := zi 6) hx hb dL_isStep_326 (by decide) ?_
                          have hPc := hP.part (cx := []) [] rfl
                          have hDc := hD.part (cx := []) [] (by decide) rfl
                          have hFc := va_freeP (cx := []) hD hS hA [] rfl
                          refine va_calli (va_runV (As := [.int (zi i), .int (zi y), .int (zi 6)]) (rest := []) ⟨hx, hb, hml, hown, hts⟩ (c_X7_at l dC dI cI cZ cM cT H.size hh ms gv tn tb κ1_113 i am aw av ax T kk ka kb y 6 (by first | assumption | omega | rfl) hz_114 (by first | assumption | omega | rfl) hμ (by first | assumption | omega | rfl) (by first | assumption | omega | rfl)) (cwV 3 hts (goodIn_of _ (by decide +kernel)) rfl rfl rfl (by decide +kernel) ⟨Nat.le_of_ble_eq_true rfl, Nat.le_of_ble_eq_true rfl⟩) ⟨fun a U g mk q => by obtain ⟨q0, q1, qP, qK, qD⟩ := q; exact ⟨q0, q1, qP, va_K.moved (u := U) (U := U.calling g mk a) (Vm.Alike.refl U.vm) qK, qD⟩, va_recv hK hPc (ci := 6) (q0 := 0) rfl rfl, fun U hU hW => ⟨rfl, by rw [hU], by rw [hU]; exact hPc, va_K.moved hW.alike hK, hDc.weaken (fun _ _ _ _ => trivial)⟩⟩ rfl rfl hl.1 rfl (lv_room (Nat.le_of_ble_eq_true rfl)) dL_isStep_328 ⟨Nat.le_of_ble_eq_true rfl, Nat.le_of_ble_eq_true rfl⟩) hS (fun q _ h => hFc q h) hFc (fun r_115 u t H1 locs ht hvm hw hB hz1 hk1 hS => ?_)
                          obtain ⟨κ1_116, hz_117, hP1, hK1, hD1⟩ := hB
                          rw [ht] at hP1
                          obtain ⟨hP, hD⟩ := va_joinP (wr := []) (rx := []) (pl1 := (pq_WD cI cZ cM cT hh ms gv tn tb κ1_116)) hP hD [] [] rfl rfl (by decide) (by decide) hk1 hFc hP1 hD1
                          generalize H1 = H at hP hS ⊢
                          have hP : va_P (dC, dI) vwCl ([] ++ (pq_WD cI cZ cM cT hh ms gv tn tb κ1_116)) H := hP
                          have hD : va_D A ([] ++ (pq_WD cI cZ cM cT hh ms gv tn tb κ1_116)) := hD
                          refine W.widen (k := 0) (n := 0) (Nat.le_of_ble_eq_true rfl) (Nat.le_of_ble_eq_true rfl) ?_
                          obtain rfl : r_115 = zi (pq_av (pq_r T y.toNat) (6 : Int)) := hw
                          refine pz_top (y := zi (pq_g (pq_r T y.toNat))) (congrArg zi (rfl)) ?_
                          refine lv_istore (lv' := [(12, .int (zi (pq_g (pq_r T y.toNat)))), (11, .int (zi (pq_l (pq_r T y.toNat)))), (10, .int (zi (-1))), (9, .int (zi (pq_w T (pq_c (pq_r T y.toNat))))), (8, .int (zi 1)), (7, .int (zi (pq_t (pq_r T y.toNat) (pq_p (pq_r T y.toNat))))), (6, .int (zi (pq_p (pq_r T (y + 1).toNat)))), (5, .int (zi (pq_p (pq_r T y.toNat)))), (4, .int (zi (pq_q (pq_r T y.toNat)))), (3, .int (zi (pq_d (pq_r T y.toNat)))), (0, .ref hh), (1, .int (zi i)), (2, .int (zi y))]) hx hb dL_isStep_331 hl (by decide) rfl (fun ls hl => ?_)
                          refine lv_aload_n hx hb dL_isStep_333 rfl (lv_at hl 10 rfl) ?_
                          refine lv_iload_n hx hb dL_isStep_334 rfl (lv_at hl 11 rfl) ?_
                          refine lv_iload_n hx hb dL_isStep_335 rfl (lv_at hl 12 rfl) ?_
                          refine lv_iconst (v := zi 4) hx hb dL_isStep_336 (by decide) ?_
                          have hPc := hP.part (cx := []) [] rfl
                          have hDc := hD.part (cx := []) [] (by decide) rfl
                          have hFc := va_freeP (cx := []) hD hS hA [] rfl
                          refine va_calli (va_runV (As := [.int (zi i), .int (zi y), .int (zi 4)]) (rest := []) ⟨hx, hb, hml, hown, hts⟩ (c_X7_at l dC dI cI cZ cM cT H.size hh ms gv tn tb κ1_116 i am aw av ax T kk ka kb y 4 (by first | assumption | omega | rfl) hz_117 (by first | assumption | omega | rfl) hμ (by first | assumption | omega | rfl) (by first | assumption | omega | rfl)) (cwV 3 hts (goodIn_of _ (by decide +kernel)) rfl rfl rfl (by decide +kernel) ⟨Nat.le_of_ble_eq_true rfl, Nat.le_of_ble_eq_true rfl⟩) ⟨fun a U g mk q => by obtain ⟨q0, q1, qP, qK, qD⟩ := q; exact ⟨q0, q1, qP, va_K.moved (u := U) (U := U.calling g mk a) (Vm.Alike.refl U.vm) qK, qD⟩, va_recv hK hPc (ci := 6) (q0 := 0) rfl rfl, fun U hU hW => ⟨rfl, by rw [hU], by rw [hU]; exact hPc, va_K.moved hW.alike hK, hDc.weaken (fun _ _ _ _ => trivial)⟩⟩ rfl rfl hl.1 rfl (lv_room (Nat.le_of_ble_eq_true rfl)) dL_isStep_337 ⟨Nat.le_of_ble_eq_true rfl, Nat.le_of_ble_eq_true rfl⟩) hS (fun q _ h => hFc q h) hFc (fun r_118 u t H1 locs ht hvm hw hB hz1 hk1 hS => ?_)
                          obtain ⟨κ1_119, hz_120, hP1, hK1, hD1⟩ := hB
                          rw [ht] at hP1
                          obtain ⟨hP, hD⟩ := va_joinP (wr := []) (rx := []) (pl1 := (pq_WD cI cZ cM cT hh ms gv tn tb κ1_119)) hP hD [] [] rfl rfl (by decide) (by decide) hk1 hFc hP1 hD1
                          generalize H1 = H at hP hS ⊢
                          have hP : va_P (dC, dI) vwCl ([] ++ (pq_WD cI cZ cM cT hh ms gv tn tb κ1_119)) H := hP
                          have hD : va_D A ([] ++ (pq_WD cI cZ cM cT hh ms gv tn tb κ1_119)) := hD
                          refine W.widen (k := 0) (n := 0) (Nat.le_of_ble_eq_true rfl) (Nat.le_of_ble_eq_true rfl) ?_
                          obtain rfl : r_118 = zi (pq_av (pq_r T y.toNat) (4 : Int)) := hw
                          refine pz_top (y := zi (pq_runs (pq_r T y.toNat))) (congrArg zi (rfl)) ?_
                          refine lv_istore (lv' := [(13, .int (zi (pq_runs (pq_r T y.toNat)))), (12, .int (zi (pq_g (pq_r T y.toNat)))), (11, .int (zi (pq_l (pq_r T y.toNat)))), (10, .int (zi (-1))), (9, .int (zi (pq_w T (pq_c (pq_r T y.toNat))))), (8, .int (zi 1)), (7, .int (zi (pq_t (pq_r T y.toNat) (pq_p (pq_r T y.toNat))))), (6, .int (zi (pq_p (pq_r T (y + 1).toNat)))), (5, .int (zi (pq_p (pq_r T y.toNat)))), (4, .int (zi (pq_q (pq_r T y.toNat)))), (3, .int (zi (pq_d (pq_r T y.toNat)))), (0, .ref hh), (1, .int (zi i)), (2, .int (zi y))]) hx hb dL_isStep_340 hl (by decide) rfl (fun ls hl => ?_)
                          refine lv_aload_n hx hb dL_isStep_342 rfl (lv_at hl 11 rfl) ?_
                          refine lv_iload_n hx hb dL_isStep_343 rfl (lv_at hl 12 rfl) ?_
                          refine lv_iload_n hx hb dL_isStep_344 rfl (lv_at hl 13 rfl) ?_
                          refine lv_iconst (v := zi 3) hx hb dL_isStep_345 (by decide) ?_
                          have hPc := hP.part (cx := []) [] rfl
                          have hDc := hD.part (cx := []) [] (by decide) rfl
                          have hFc := va_freeP (cx := []) hD hS hA [] rfl
                          refine va_calli (va_runV (As := [.int (zi i), .int (zi y), .int (zi 3)]) (rest := []) ⟨hx, hb, hml, hown, hts⟩ (c_X7_at l dC dI cI cZ cM cT H.size hh ms gv tn tb κ1_119 i am aw av ax T kk ka kb y 3 (by first | assumption | omega | rfl) hz_120 (by first | assumption | omega | rfl) hμ (by first | assumption | omega | rfl) (by first | assumption | omega | rfl)) (cwV 3 hts (goodIn_of _ (by decide +kernel)) rfl rfl rfl (by decide +kernel) ⟨Nat.le_of_ble_eq_true rfl, Nat.le_of_ble_eq_true rfl⟩) ⟨fun a U g mk q => by obtain ⟨q0, q1, qP, qK, qD⟩ := q; exact ⟨q0, q1, qP, va_K.moved (u := U) (U := U.calling g mk a) (Vm.Alike.refl U.vm) qK, qD⟩, va_recv hK hPc (ci := 6) (q0 := 0) rfl rfl, fun U hU hW => ⟨rfl, by rw [hU], by rw [hU]; exact hPc, va_K.moved hW.alike hK, hDc.weaken (fun _ _ _ _ => trivial)⟩⟩ rfl rfl hl.1 rfl (lv_room (Nat.le_of_ble_eq_true rfl)) dL_isStep_346 ⟨Nat.le_of_ble_eq_true rfl, Nat.le_of_ble_eq_true rfl⟩) hS (fun q _ h => hFc q h) hFc (fun r_121 u t H1 locs ht hvm hw hB hz1 hk1 hS => ?_)
                          obtain ⟨κ1_122, hz_123, hP1, hK1, hD1⟩ := hB
                          rw [ht] at hP1
                          obtain ⟨hP, hD⟩ := va_joinP (wr := []) (rx := []) (pl1 := (pq_WD cI cZ cM cT hh ms gv tn tb κ1_122)) hP hD [] [] rfl rfl (by decide) (by decide) hk1 hFc hP1 hD1
                          generalize H1 = H at hP hS ⊢
                          have hP : va_P (dC, dI) vwCl ([] ++ (pq_WD cI cZ cM cT hh ms gv tn tb κ1_122)) H := hP
                          have hD : va_D A ([] ++ (pq_WD cI cZ cM cT hh ms gv tn tb κ1_122)) := hD
                          refine W.widen (k := 0) (n := 0) (Nat.le_of_ble_eq_true rfl) (Nat.le_of_ble_eq_true rfl) ?_
                          obtain rfl : r_121 = zi (pq_av (pq_r T y.toNat) (3 : Int)) := hw
                          refine pz_top (y := zi (pq_ones (pq_r T y.toNat))) (congrArg zi (rfl)) ?_
                          refine lv_istore (lv' := [(14, .int (zi (pq_ones (pq_r T y.toNat)))), (13, .int (zi (pq_runs (pq_r T y.toNat)))), (12, .int (zi (pq_g (pq_r T y.toNat)))), (11, .int (zi (pq_l (pq_r T y.toNat)))), (10, .int (zi (-1))), (9, .int (zi (pq_w T (pq_c (pq_r T y.toNat))))), (8, .int (zi 1)), (7, .int (zi (pq_t (pq_r T y.toNat) (pq_p (pq_r T y.toNat))))), (6, .int (zi (pq_p (pq_r T (y + 1).toNat)))), (5, .int (zi (pq_p (pq_r T y.toNat)))), (4, .int (zi (pq_q (pq_r T y.toNat)))), (3, .int (zi (pq_d (pq_r T y.toNat)))), (0, .ref hh), (1, .int (zi i)), (2, .int (zi y))]) hx hb dL_isStep_349 hl (by decide) rfl (fun ls hl => ?_)
                          refine lv_aload_n hx hb dL_isStep_351 rfl (lv_at hl 12 rfl) ?_
                          refine lv_iload_n hx hb dL_isStep_352 rfl (lv_at hl 13 rfl) ?_
                          refine lv_iload_n hx hb dL_isStep_353 rfl (lv_at hl 14 rfl) ?_
                          refine lv_iconst (v := zi 1) hx hb dL_isStep_354 (by decide) ?_
                          refine pz_iadd hx hb dL_isStep_355 ?_
                          refine lv_iconst (v := zi 5) hx hb dL_isStep_356 (by decide) ?_
                          have hPc := hP.part (cx := []) [] rfl
                          have hDc := hD.part (cx := []) [] (by decide) rfl
                          have hFc := va_freeP (cx := []) hD hS hA [] rfl
                          refine va_calli (va_runV (As := [.int (zi i), .int (zi (y + 1)), .int (zi 5)]) (rest := []) ⟨hx, hb, hml, hown, hts⟩ (c_X7_at l dC dI cI cZ cM cT H.size hh ms gv tn tb κ1_122 i am aw av ax T kk ka kb (y + 1) 5 (by first | assumption | omega | rfl) hz_123 (by first | assumption | omega | rfl) hμ (by first | assumption | omega | rfl) (by first | assumption | omega | rfl)) (cwV 3 hts (goodIn_of _ (by decide +kernel)) rfl rfl rfl (by decide +kernel) ⟨Nat.le_of_ble_eq_true rfl, Nat.le_of_ble_eq_true rfl⟩) ⟨fun a U g mk q => by obtain ⟨q0, q1, qP, qK, qD⟩ := q; exact ⟨q0, q1, qP, va_K.moved (u := U) (U := U.calling g mk a) (Vm.Alike.refl U.vm) qK, qD⟩, va_recv hK hPc (ci := 6) (q0 := 0) rfl rfl, fun U hU hW => ⟨rfl, by rw [hU], by rw [hU]; exact hPc, va_K.moved hW.alike hK, hDc.weaken (fun _ _ _ _ => trivial)⟩⟩ rfl rfl hl.1 rfl (lv_room (Nat.le_of_ble_eq_true rfl)) dL_isStep_357 ⟨Nat.le_of_ble_eq_true rfl, Nat.le_of_ble_eq_true rfl⟩) hS (fun q _ h => hFc q h) hFc (fun r_124 u t H1 locs ht hvm hw hB hz1 hk1 hS => ?_)
                          obtain ⟨κ1_125, hz_126, hP1, hK1, hD1⟩ := hB
                          rw [ht] at hP1
                          obtain ⟨hP, hD⟩ := va_joinP (wr := []) (rx := []) (pl1 := (pq_WD cI cZ cM cT hh ms gv tn tb κ1_125)) hP hD [] [] rfl rfl (by decide) (by decide) hk1 hFc hP1 hD1
                          generalize H1 = H at hP hS ⊢
                          have hP : va_P (dC, dI) vwCl ([] ++ (pq_WD cI cZ cM cT hh ms gv tn tb κ1_125)) H := hP
                          have hD : va_D A ([] ++ (pq_WD cI cZ cM cT hh ms gv tn tb κ1_125)) := hD
                          refine W.widen (k := 0) (n := 0) (Nat.le_of_ble_eq_true rfl) (Nat.le_of_ble_eq_true rfl) ?_
                          obtain rfl : r_124 = zi (pq_av (pq_r T (y + 1).toNat) (5 : Int)) := hw
                          refine pz_top (y := zi (min (pq_l (pq_r T y.toNat)) (pq_p (pq_r T y.toNat) + pq_v T (pq_c (pq_r T y.toNat))))) (congrArg zi ((show pq_av (pq_r T (y + 1).toNat) 5 = pq_l (pq_r T (y + 1).toNat) from rfl).trans (by rw [hgo]; rfl))) ?_
                          refine lv_iload hx hb dL_isStep_360 (lv_at hl 3 rfl) ?_
                          refine lv_iload hx hb dL_isStep_362 (lv_at hl 8 rfl) ?_
                          refine va_mmin hx hb (by rw [hml]; exact hl.1.symm) hown (hts (.methodLink RL 86 Lib.Math.min.name) (by decide +kernel)) (hts (.static Lib.Math.min.name) (by decide +kernel)) (hts (.initialized "java/lang/Math") (by decide +kernel)) (hts (.code Lib.Math.min.name Lib.Math.min.code 2 (some .int)) (by decide +kernel)) (Nat.le_of_ble_eq_true rfl) (Nat.le_of_ble_eq_true rfl) (Nat.le_of_ble_eq_true rfl) (Nat.le_of_ble_eq_true rfl) dL_isStep_364 ?_
                          refine pz_top (y := (zi (min (pq_l (pq_r T y.toNat)) (pq_p (pq_r T (y + 1).toNat))))) (zi_min (by omega)) ?_
                          refine pz_icmp_ne (tgt := 462) hx hb (by omega) dL_isStep_367 (by decide) (fun c_127 => ?_) (fun c_127 => ?_)
                          · exact (c_127 (by omega)).elim
                          · refine lv_aload_n hx hb dL_isStep_370 rfl (lv_at hl 12 rfl) ?_
                            refine lv_iload_n hx hb dL_isStep_371 rfl (lv_at hl 13 rfl) ?_
                            refine lv_iload_n hx hb dL_isStep_372 rfl (lv_at hl 14 rfl) ?_
                            refine lv_iconst (v := zi 1) hx hb dL_isStep_373 (by decide) ?_
                            refine pz_iadd hx hb dL_isStep_374 ?_
                            refine lv_bipush (v := zi 6) hx hb dL_isStep_375 (by decide) ?_
                            have hPc := hP.part (cx := []) [] rfl
                            have hDc := hD.part (cx := []) [] (by decide) rfl
                            have hFc := va_freeP (cx := []) hD hS hA [] rfl
                            refine va_calli (va_runV (As := [.int (zi i), .int (zi (y + 1)), .int (zi 6)]) (rest := []) ⟨hx, hb, hml, hown, hts⟩ (c_X7_at l dC dI cI cZ cM cT H.size hh ms gv tn tb κ1_125 i am aw av ax T kk ka kb (y + 1) 6 (by first | assumption | omega | rfl) hz_126 (by first | assumption | omega | rfl) hμ (by first | assumption | omega | rfl) (by first | assumption | omega | rfl)) (cwV 3 hts (goodIn_of _ (by decide +kernel)) rfl rfl rfl (by decide +kernel) ⟨Nat.le_of_ble_eq_true rfl, Nat.le_of_ble_eq_true rfl⟩) ⟨fun a U g mk q => by obtain ⟨q0, q1, qP, qK, qD⟩ := q; exact ⟨q0, q1, qP, va_K.moved (u := U) (U := U.calling g mk a) (Vm.Alike.refl U.vm) qK, qD⟩, va_recv hK hPc (ci := 6) (q0 := 0) rfl rfl, fun U hU hW => ⟨rfl, by rw [hU], by rw [hU]; exact hPc, va_K.moved hW.alike hK, hDc.weaken (fun _ _ _ _ => trivial)⟩⟩ rfl rfl hl.1 rfl (lv_room (Nat.le_of_ble_eq_true rfl)) dL_isStep_377 ⟨Nat.le_of_ble_eq_true rfl, Nat.le_of_ble_eq_true rfl⟩) hS (fun q _ h => hFc q h) hFc (fun r_128 u t H1 locs ht hvm hw hB hz1 hk1 hS => ?_)
                            obtain ⟨κ1_129, hz_130, hP1, hK1, hD1⟩ := hB
                            rw [ht] at hP1
                            obtain ⟨hP, hD⟩ := va_joinP (wr := []) (rx := []) (pl1 := (pq_WD cI cZ cM cT hh ms gv tn tb κ1_129)) hP hD [] [] rfl rfl (by decide) (by decide) hk1 hFc hP1 hD1
                            generalize H1 = H at hP hS ⊢
                            have hP : va_P (dC, dI) vwCl ([] ++ (pq_WD cI cZ cM cT hh ms gv tn tb κ1_129)) H := hP
                            have hD : va_D A ([] ++ (pq_WD cI cZ cM cT hh ms gv tn tb κ1_129)) := hD
                            refine W.widen (k := 0) (n := 0) (Nat.le_of_ble_eq_true rfl) (Nat.le_of_ble_eq_true rfl) ?_
                            obtain rfl : r_128 = zi (pq_av (pq_r T (y + 1).toNat) (6 : Int)) := hw
                            refine pz_top (y := zi (max (pq_g (pq_r T y.toNat)) (pq_p (pq_r T y.toNat) + pq_v T (pq_c (pq_r T y.toNat))))) (congrArg zi ((show pq_av (pq_r T (y + 1).toNat) 6 = pq_g (pq_r T (y + 1).toNat) from rfl).trans (by rw [hgo]; rfl))) ?_
                            refine lv_iload hx hb dL_isStep_380 (lv_at hl 2 rfl) ?_
                            refine lv_iload hx hb dL_isStep_382 (lv_at hl 8 rfl) ?_
                            refine va_mmax hx hb (by rw [hml]; exact hl.1.symm) hown (hts (.methodLink RL 91 Lib.Math.max.name) (by decide +kernel)) (hts (.static Lib.Math.max.name) (by decide +kernel)) (hts (.initialized "java/lang/Math") (by decide +kernel)) (hts (.code Lib.Math.max.name Lib.Math.max.code 2 (some .int)) (by decide +kernel)) (Nat.le_of_ble_eq_true rfl) (Nat.le_of_ble_eq_true rfl) (Nat.le_of_ble_eq_true rfl) (Nat.le_of_ble_eq_true rfl) dL_isStep_384 ?_
                            refine pz_top (y := (zi (max (pq_g (pq_r T y.toNat)) (pq_p (pq_r T (y + 1).toNat))))) (zi_max (by omega)) ?_
                            refine pz_icmp_ne (tgt := 462) hx hb (by omega) dL_isStep_387 (by decide) (fun c_131 => ?_) (fun c_131 => ?_)
                            · exact (c_131 (by omega)).elim
                            · refine lv_iload hx hb dL_isStep_390 (lv_at hl 1 rfl) ?_
                              refine lv_iconst (v := zi 1) hx hb dL_isStep_392 (by decide) ?_
                              refine pz_icmp_lt (tgt := 462) hx hb (by omega) dL_isStep_393 (by decide) (fun c_132 => ?_) (fun c_132 => ?_)
                              · exact absurd c_132 (by omega)
                              · refine lv_iload hx hb dL_isStep_396 (lv_at hl 1 rfl) ?_
                                refine lv_iload hx hb dL_isStep_398 (lv_at hl 2 rfl) ?_
                                refine lv_iload hx hb dL_isStep_400 (lv_at hl 3 rfl) ?_
                                refine pz_isub hx hb dL_isStep_402 ?_
                                refine lv_iconst (v := zi 1) hx hb dL_isStep_403 (by decide) ?_
                                refine pz_iadd hx hb dL_isStep_404 ?_
                                refine pz_icmp_gt (tgt := 462) hx hb (by omega) dL_isStep_405 (by decide) (fun c_133 => ?_) (fun c_133 => ?_)
                                · exact absurd c_133 (by omega)
                                · refine lv_iload hx hb dL_isStep_408 (lv_at hl 0 rfl) ?_
                                  refine lv_iload hx hb dL_isStep_410 (lv_at hl 2 rfl) ?_
                                  refine lv_iload hx hb dL_isStep_412 (lv_at hl 3 rfl) ?_
                                  refine pz_isub hx hb dL_isStep_414 ?_
                                  refine lv_iconst (v := zi 1) hx hb dL_isStep_415 (by decide) ?_
                                  refine pz_iadd hx hb dL_isStep_416 ?_
                                  refine pz_icmp_gt (tgt := 462) hx hb (by omega) dL_isStep_417 (by decide) (fun c_134 => ?_) (fun c_134 => ?_)
                                  · exact absurd c_134 (by omega)
                                  · refine lv_aload_n hx hb dL_isStep_420 rfl (lv_at hl 12 rfl) ?_
                                    refine lv_iload_n hx hb dL_isStep_421 rfl (lv_at hl 13 rfl) ?_
                                    refine lv_iload_n hx hb dL_isStep_422 rfl (lv_at hl 14 rfl) ?_
                                    refine lv_bipush (v := zi 7) hx hb dL_isStep_423 (by decide) ?_
                                    have hPc := hP.part (cx := []) [] rfl
                                    have hDc := hD.part (cx := []) [] (by decide) rfl
                                    have hFc := va_freeP (cx := []) hD hS hA [] rfl
                                    refine va_calli (va_runV (As := [.int (zi i), .int (zi y), .int (zi 7)]) (rest := []) ⟨hx, hb, hml, hown, hts⟩ (c_X7_at l dC dI cI cZ cM cT H.size hh ms gv tn tb κ1_129 i am aw av ax T kk ka kb y 7 (by first | assumption | omega | rfl) hz_130 (by first | assumption | omega | rfl) hμ (by first | assumption | omega | rfl) (by first | assumption | omega | rfl)) (cwV 3 hts (goodIn_of _ (by decide +kernel)) rfl rfl rfl (by decide +kernel) ⟨Nat.le_of_ble_eq_true rfl, Nat.le_of_ble_eq_true rfl⟩) ⟨fun a U g mk q => by obtain ⟨q0, q1, qP, qK, qD⟩ := q; exact ⟨q0, q1, qP, va_K.moved (u := U) (U := U.calling g mk a) (Vm.Alike.refl U.vm) qK, qD⟩, va_recv hK hPc (ci := 6) (q0 := 0) rfl rfl, fun U hU hW => ⟨rfl, by rw [hU], by rw [hU]; exact hPc, va_K.moved hW.alike hK, hDc.weaken (fun _ _ _ _ => trivial)⟩⟩ rfl rfl hl.1 rfl (lv_room (Nat.le_of_ble_eq_true rfl)) dL_isStep_425 ⟨Nat.le_of_ble_eq_true rfl, Nat.le_of_ble_eq_true rfl⟩) hS (fun q _ h => hFc q h) hFc (fun r_135 u t H1 locs ht hvm hw hB hz1 hk1 hS => ?_)
                                    obtain ⟨κ1_136, hz_137, hP1, hK1, hD1⟩ := hB
                                    rw [ht] at hP1
                                    obtain ⟨hP, hD⟩ := va_joinP (wr := []) (rx := []) (pl1 := (pq_WD cI cZ cM cT hh ms gv tn tb κ1_136)) hP hD [] [] rfl rfl (by decide) (by decide) hk1 hFc hP1 hD1
                                    generalize H1 = H at hP hS ⊢
                                    have hP : va_P (dC, dI) vwCl ([] ++ (pq_WD cI cZ cM cT hh ms gv tn tb κ1_136)) H := hP
                                    have hD : va_D A ([] ++ (pq_WD cI cZ cM cT hh ms gv tn tb κ1_136)) := hD
                                    refine W.widen (k := 0) (n := 0) (Nat.le_of_ble_eq_true rfl) (Nat.le_of_ble_eq_true rfl) ?_
                                    obtain rfl : r_135 = zi (pq_av (pq_r T y.toNat) (7 : Int)) := hw
                                    refine pz_top (y := zi (pq_eig (pq_r T y.toNat))) (congrArg zi (rfl)) ?_
                                    refine lv_bipush (v := zi 8) hx hb dL_isStep_428 (by decide) ?_
                                    refine lv_iload hx hb dL_isStep_430 (lv_at hl 0 rfl) ?_
                                    refine pz_imul hx hb dL_isStep_432 ?_
                                    refine lv_iload hx hb dL_isStep_433 (lv_at hl 2 rfl) ?_
                                    refine lv_iload hx hb dL_isStep_435 (lv_at hl 3 rfl) ?_
                                    refine pz_isub hx hb dL_isStep_437 ?_
                                    refine lv_iconst (v := zi 1) hx hb dL_isStep_438 (by decide) ?_
                                    refine pz_iadd hx hb dL_isStep_439 ?_
                                    refine pz_idiv hx hb (by omega) dL_isStep_440 ?_
                                    refine pz_icmp_ne (tgt := 462) hx hb (by omega) dL_isStep_441 (by decide) (fun c_138 => ?_) (fun c_138 => ?_)
                                    · exact (c_138 (by omega)).elim
                                    · refine lv_iload hx hb dL_isStep_444 (lv_at hl 3 rfl) ?_
                                      refine lv_iload hx hb dL_isStep_446 (lv_at hl 9 rfl) ?_
                                      refine pz_icmp_gt (tgt := 462) hx hb (by omega) dL_isStep_448 (by decide) (fun c_139 => ?_) (fun c_139 => ?_)
                                      · exact absurd c_139 (by omega)
                                      · refine lv_iload hx hb dL_isStep_451 (lv_at hl 9 rfl) ?_
                                        refine lv_iload hx hb dL_isStep_453 (lv_at hl 2 rfl) ?_
                                        refine pz_icmp_gt (tgt := 462) hx hb (by omega) dL_isStep_455 (by decide) (fun c_140 => ?_) (fun c_140 => ?_)
                                        · exact absurd c_140 (by omega)
                                        · refine lv_iconst (v := zi 1) hx hb dL_isStep_458 (by decide) ?_
                                          refine lv_goto (tgt := 463) hx hb dL_isStep_459 (by decide) ?_
                                          refine W.widen (k := 0) (n := 0) (Nat.le_of_ble_eq_true rfl) (Nat.le_of_ble_eq_true rfl) ?_
                                          exact W.zret (v := (zi 1)) hx hb hr (pz_nar (by first | omega | exact pb_or _)) (fun t ht hW => ⟨⟨(zi 1), (), rfl, rfl, ⟨κ1_136, hz_137, by rw [ht]; exact hP, va_K.moved hW.alike hK, hD⟩⟩, hS.F ht⟩) hS.2.2 dL_isStep_463
                        · refine lv_iload hx hb dL_isStep_278 (lv_at hl 11 rfl) ?_
                          refine lv_iload hx hb dL_isStep_280 (lv_at hl 5 rfl) ?_
                          refine pz_icmp_eq (tgt := 308) hx hb (by omega) dL_isStep_282 (by decide) (fun c_141 => ?_) (fun c_141 => ?_)
                          · refine pz_iinc (lv' := [(11, .int (zi (j + 1))), (10, .int (zi (-1))), (9, .int (zi (pq_w T (pq_c (pq_r T y.toNat))))), (8, .int (zi 1)), (7, .int (zi (pq_t (pq_r T y.toNat) (pq_p (pq_r T y.toNat))))), (6, .int (zi (pq_p (pq_r T (y + 1).toNat)))), (5, .int (zi (pq_p (pq_r T y.toNat)))), (4, .int (zi (pq_q (pq_r T y.toNat)))), (3, .int (zi (pq_d (pq_r T y.toNat)))), (0, .ref hh), (1, .int (zi i)), (2, .int (zi y))]) hx hb dL_isStep_308 hl (k := 11) rfl (by decide) rfl (fun ls hl => ?_)
                            refine lv_goto (tgt := 271) hx hb dL_isStep_311 (by decide) ?_
                            exact ih_271 _ _ _ _ ⟨j + 1, κ2, rfl, (by first | assumption | omega | rfl), hκ2, hP, hD, hS, lv_sub hl [1, 2, 3, 4, 5, 6, 7, 8, 9, 10, 11, 0] rfl⟩ (by omega)
                          · refine lv_aload_n hx hb dL_isStep_285 rfl (lv_at hl 8 rfl) ?_
                            refine lv_iload_n hx hb dL_isStep_286 rfl (lv_at hl 9 rfl) ?_
                            refine lv_iload_n hx hb dL_isStep_287 rfl (lv_at hl 10 rfl) ?_
                            refine lv_iload hx hb dL_isStep_288 (lv_at hl 11 rfl) ?_
                            have hPc := hP.part (cx := []) [] rfl
                            have hDc := hD.part (cx := []) [] (by decide) rfl
                            have hFc := va_freeP (cx := []) hD hS hA [] rfl
                            refine va_calli (va_runV (As := [.int (zi i), .int (zi y), .int (zi j)]) (rest := []) ⟨hx, hb, hml, hown, hts⟩ (c_X7_symbol l dC dI cI cZ cM cT H.size hh ms gv tn tb κ2 i am aw av ax T kk ka kb y j (by first | assumption | omega | rfl) hκ2 (by first | assumption | omega | rfl) hμ (by first | assumption | omega | rfl) (by first | assumption | omega | rfl)) (cwV 3 hts (goodIn_of _ (by decide +kernel)) rfl rfl rfl (by decide +kernel) ⟨Nat.le_of_ble_eq_true rfl, Nat.le_of_ble_eq_true rfl⟩) ⟨fun a U g mk q => by obtain ⟨q0, q1, qP, qK, qD⟩ := q; exact ⟨q0, q1, qP, va_K.moved (u := U) (U := U.calling g mk a) (Vm.Alike.refl U.vm) qK, qD⟩, va_recv hK hPc (ci := 6) (q0 := 0) rfl rfl, fun U hU hW => ⟨rfl, by rw [hU], by rw [hU]; exact hPc, va_K.moved hW.alike hK, hDc.weaken (fun _ _ _ _ => trivial)⟩⟩ rfl rfl hl.1 rfl (lv_room (Nat.le_of_ble_eq_true rfl)) dL_isStep_290 ⟨Nat.le_of_ble_eq_true rfl, Nat.le_of_ble_eq_true rfl⟩) hS (fun q _ h => hFc q h) hFc (fun r_142 u t H1 locs ht hvm hw hB hz1 hk1 hS => ?_)
                            obtain ⟨κ1_143, hz_144, hP1, hK1, hD1⟩ := hB
                            rw [ht] at hP1
                            obtain ⟨hP, hD⟩ := va_joinP (wr := []) (rx := []) (pl1 := (pq_WD cI cZ cM cT hh ms gv tn tb κ1_143)) hP hD [] [] rfl rfl (by decide) (by decide) hk1 hFc hP1 hD1
                            generalize H1 = H at hP hS ⊢
                            have hP : va_P (dC, dI) vwCl ([] ++ (pq_WD cI cZ cM cT hh ms gv tn tb κ1_143)) H := hP
                            have hD : va_D A ([] ++ (pq_WD cI cZ cM cT hh ms gv tn tb κ1_143)) := hD
                            refine W.widen (k := 0) (n := 0) (Nat.le_of_ble_eq_true rfl) (Nat.le_of_ble_eq_true rfl) ?_
                            obtain rfl : r_142 = zi (pq_t (pq_r T y.toNat) j) := hw
                            refine pz_top (y := zi (pq_t (pq_r T y.toNat) j)) (congrArg zi (rfl)) ?_
                            refine lv_aload_n hx hb dL_isStep_293 rfl (lv_at hl 8 rfl) ?_
                            refine lv_iload_n hx hb dL_isStep_294 rfl (lv_at hl 9 rfl) ?_
                            refine lv_iload_n hx hb dL_isStep_295 rfl (lv_at hl 10 rfl) ?_
                            refine lv_iconst (v := zi 1) hx hb dL_isStep_296 (by decide) ?_
                            refine pz_iadd hx hb dL_isStep_297 ?_
                            refine lv_iload hx hb dL_isStep_298 (lv_at hl 11 rfl) ?_
                            have hPc := hP.part (cx := []) [] rfl
                            have hDc := hD.part (cx := []) [] (by decide) rfl
                            have hFc := va_freeP (cx := []) hD hS hA [] rfl
                            refine va_calli (va_runV (As := [.int (zi i), .int (zi (y + 1)), .int (zi j)]) (rest := [.int (zi (pq_t (pq_r T y.toNat) j))]) ⟨hx, hb, hml, hown, hts⟩ (c_X7_symbol l dC dI cI cZ cM cT H.size hh ms gv tn tb κ1_143 i am aw av ax T kk ka kb (y + 1) j (by first | assumption | omega | rfl) hz_144 (by first | assumption | omega | rfl) hμ (by first | assumption | omega | rfl) (by first | assumption | omega | rfl)) (cwV 3 hts (goodIn_of _ (by decide +kernel)) rfl rfl rfl (by decide +kernel) ⟨Nat.le_of_ble_eq_true rfl, Nat.le_of_ble_eq_true rfl⟩) ⟨fun a U g mk q => by obtain ⟨q0, q1, qP, qK, qD⟩ := q; exact ⟨q0, q1, qP, va_K.moved (u := U) (U := U.calling g mk a) (Vm.Alike.refl U.vm) qK, qD⟩, va_recv hK hPc (ci := 6) (q0 := 0) rfl rfl, fun U hU hW => ⟨rfl, by rw [hU], by rw [hU]; exact hPc, va_K.moved hW.alike hK, hDc.weaken (fun _ _ _ _ => trivial)⟩⟩ rfl rfl hl.1 rfl (lv_room (Nat.le_of_ble_eq_true rfl)) dL_isStep_300 ⟨Nat.le_of_ble_eq_true rfl, Nat.le_of_ble_eq_true rfl⟩) hS (fun q _ h => hFc q h) hFc (fun r_145 u t H1 locs ht hvm hw hB hz1 hk1 hS => ?_)
                            obtain ⟨κ1_146, hz_147, hP1, hK1, hD1⟩ := hB
                            rw [ht] at hP1
                            obtain ⟨hP, hD⟩ := va_joinP (wr := []) (rx := []) (pl1 := (pq_WD cI cZ cM cT hh ms gv tn tb κ1_146)) hP hD [] [] rfl rfl (by decide) (by decide) hk1 hFc hP1 hD1
                            generalize H1 = H at hP hS ⊢
                            have hP : va_P (dC, dI) vwCl ([] ++ (pq_WD cI cZ cM cT hh ms gv tn tb κ1_146)) H := hP
                            have hD : va_D A ([] ++ (pq_WD cI cZ cM cT hh ms gv tn tb κ1_146)) := hD
                            refine W.widen (k := 0) (n := 0) (Nat.le_of_ble_eq_true rfl) (Nat.le_of_ble_eq_true rfl) ?_
                            obtain rfl : r_145 = zi (pq_t (pq_r T (y + 1).toNat) j) := hw
                            refine pz_top (y := zi (pq_t (pq_r T y.toNat) j)) (congrArg zi ((by rw [hgo, pq_t_go]; exact pq_up_ne _ _ c_141))) ?_
                            refine pz_icmp_eq (tgt := 308) hx hb (by have h1 := hwf.2.1 j; omega) dL_isStep_303 (by decide) (fun c_148 => ?_) (fun c_148 => ?_)
                            · refine pz_iinc (lv' := [(11, .int (zi (j + 1))), (10, .int (zi (-1))), (9, .int (zi (pq_w T (pq_c (pq_r T y.toNat))))), (8, .int (zi 1)), (7, .int (zi (pq_t (pq_r T y.toNat) (pq_p (pq_r T y.toNat))))), (6, .int (zi (pq_p (pq_r T (y + 1).toNat)))), (5, .int (zi (pq_p (pq_r T y.toNat)))), (4, .int (zi (pq_q (pq_r T y.toNat)))), (3, .int (zi (pq_d (pq_r T y.toNat)))), (0, .ref hh), (1, .int (zi i)), (2, .int (zi y))]) hx hb dL_isStep_308 hl (k := 11) rfl (by decide) rfl (fun ls hl => ?_)
                              refine lv_goto (tgt := 271) hx hb dL_isStep_311 (by decide) ?_
                              exact ih_271 _ _ _ _ ⟨j + 1, κ1_146, rfl, (by first | assumption | omega | rfl), hz_147, hP, hD, hS, lv_sub hl [1, 2, 3, 4, 5, 6, 7, 8, 9, 10, 11, 0] rfl⟩ (by omega)
                            · exact (c_148 (by omega)).elim
                      · exact (c_110 (by omega)).elim
              · refine lv_iconst (v := zi 1) hx hb dL_isStep_186 (by decide) ?_
                refine lv_goto (tgt := 191) hx hb dL_isStep_187 (by decide) ?_
                refine lv_istore (lv' := [(10, .int (zi 1)), (9, .int (zi (pq_w T (pq_c (pq_r T y.toNat))))), (8, .int (zi 1)), (7, .int (zi (pq_t (pq_r T y.toNat) (pq_p (pq_r T y.toNat))))), (6, .int (zi (pq_p (pq_r T (y + 1).toNat)))), (5, .int (zi (pq_p (pq_r T y.toNat)))), (4, .int (zi (pq_q (pq_r T y.toNat)))), (3, .int (zi (pq_d (pq_r T y.toNat)))), (0, .ref hh), (1, .int (zi i)), (2, .int (zi y))]) hx hb dL_isStep_191 hl (by decide) rfl (fun ls hl => ?_)
                refine lv_iload hx hb dL_isStep_193 (lv_at hl 4 rfl) ?_
                refine lv_iload hx hb dL_isStep_195 (lv_at hl 5 rfl) ?_
                refine lv_iload hx hb dL_isStep_197 (lv_at hl 0 rfl) ?_
                refine pz_iadd hx hb dL_isStep_199 ?_
                refine pz_icmp_ne (tgt := 265) hx hb (by omega) dL_isStep_200 (by decide) (fun c_149 => ?_) (fun c_149 => ?_)
                · exact (c_149 (by omega)).elim
                · refine lv_aload_n hx hb dL_isStep_203 rfl (lv_at hl 8 rfl) ?_
                  refine lv_iload_n hx hb dL_isStep_204 rfl (lv_at hl 9 rfl) ?_
                  refine lv_iload_n hx hb dL_isStep_205 rfl (lv_at hl 10 rfl) ?_
                  refine lv_iconst (v := zi 1) hx hb dL_isStep_206 (by decide) ?_
                  refine pz_iadd hx hb dL_isStep_207 ?_
                  refine lv_iconst (v := zi 1) hx hb dL_isStep_208 (by decide) ?_
                  have hPc := hP.part (cx := []) [] rfl
                  have hDc := hD.part (cx := []) [] (by decide) rfl
                  have hFc := va_freeP (cx := []) hD hS hA [] rfl
                  refine va_calli (va_runV (As := [.int (zi i), .int (zi (y + 1)), .int (zi 1)]) (rest := []) ⟨hx, hb, hml, hown, hts⟩ (c_X7_at l dC dI cI cZ cM cT H.size hh ms gv tn tb κ1_89 i am aw av ax T kk ka kb (y + 1) 1 (by first | assumption | omega | rfl) hz_90 (by first | assumption | omega | rfl) hμ (by first | assumption | omega | rfl) (by first | assumption | omega | rfl)) (cwV 3 hts (goodIn_of _ (by decide +kernel)) rfl rfl rfl (by decide +kernel) ⟨Nat.le_of_ble_eq_true rfl, Nat.le_of_ble_eq_true rfl⟩) ⟨fun a U g mk q => by obtain ⟨q0, q1, qP, qK, qD⟩ := q; exact ⟨q0, q1, qP, va_K.moved (u := U) (U := U.calling g mk a) (Vm.Alike.refl U.vm) qK, qD⟩, va_recv hK hPc (ci := 6) (q0 := 0) rfl rfl, fun U hU hW => ⟨rfl, by rw [hU], by rw [hU]; exact hPc, va_K.moved hW.alike hK, hDc.weaken (fun _ _ _ _ => trivial)⟩⟩ rfl rfl hl.1 rfl (lv_room (Nat.le_of_ble_eq_true rfl)) dL_isStep_209 ⟨Nat.le_of_ble_eq_true rfl, Nat.le_of_ble_eq_true rfl⟩) hS (fun q _ h => hFc q h) hFc (fun r_150 u t H1 locs ht hvm hw hB hz1 hk1 hS => ?_)
                  obtain ⟨κ1_151, hz_152, hP1, hK1, hD1⟩ := hB
                  rw [ht] at hP1
                  obtain ⟨hP, hD⟩ := va_joinP (wr := []) (rx := []) (pl1 := (pq_WD cI cZ cM cT hh ms gv tn tb κ1_151)) hP hD [] [] rfl rfl (by decide) (by decide) hk1 hFc hP1 hD1
                  generalize H1 = H at hP hS ⊢
                  have hP : va_P (dC, dI) vwCl ([] ++ (pq_WD cI cZ cM cT hh ms gv tn tb κ1_151)) H := hP
                  have hD : va_D A ([] ++ (pq_WD cI cZ cM cT hh ms gv tn tb κ1_151)) := hD
                  refine W.widen (k := 0) (n := 0) (Nat.le_of_ble_eq_true rfl) (Nat.le_of_ble_eq_true rfl) ?_
                  obtain rfl : r_150 = zi (pq_av (pq_r T (y + 1).toNat) (1 : Int)) := hw
                  refine pz_top (y := zi (pq_x T (pq_c (pq_r T y.toNat)))) (congrArg zi ((show pq_av (pq_r T (y + 1).toNat) 1 = pq_q (pq_r T (y + 1).toNat) from rfl).trans (by rw [hgo]; rfl))) ?_
                  refine lv_aload_n hx hb dL_isStep_212 rfl (lv_at hl 8 rfl) ?_
                  refine lv_iload_n hx hb dL_isStep_213 rfl (lv_at hl 9 rfl) ?_
                  refine lv_iload hx hb dL_isStep_214 (lv_at hl 6 rfl) ?_
                  refine lv_iload hx hb dL_isStep_216 (lv_at hl 3 rfl) ?_
                  refine lv_iconst (v := zi 2) hx hb dL_isStep_218 (by decide) ?_
                  have hPc := hP.part (cx := []) [] rfl
                  have hDc := hD.part (cx := []) [] (by decide) rfl
                  have hFc := va_freeP (cx := []) hD hS hA [] rfl
                  refine va_calli (va_runV (As := [.int (zi i), .int (zi (pq_q (pq_r T y.toNat))), .int (zi (pq_t (pq_r T y.toNat) (pq_p (pq_r T y.toNat)))), .int (zi 2)]) (rest := [.int (zi (pq_x T (pq_c (pq_r T y.toNat))))]) ⟨hx, hb, hml, hown, hts⟩ (c_X7_cell l dC dI cI cZ cM cT H.size hh ms gv tn tb κ1_151 i am aw av ax T kk ka kb (pq_q (pq_r T y.toNat)) (pq_t (pq_r T y.toNat) (pq_p (pq_r T y.toNat))) 2 (by first | assumption | omega | rfl) hz_152 (by first | assumption | omega | rfl) hμ (by first | assumption | omega | rfl) h01 (by first | assumption | omega | rfl)) (cwV 4 hts (goodIn_of _ (by decide +kernel)) rfl rfl rfl (by decide +kernel) ⟨Nat.le_of_ble_eq_true rfl, Nat.le_of_ble_eq_true rfl⟩) ⟨fun a U g mk q => by obtain ⟨q0, q1, qP, qK, qD⟩ := q; exact ⟨q0, q1, qP, va_K.moved (u := U) (U := U.calling g mk a) (Vm.Alike.refl U.vm) qK, qD⟩, va_recv hK hPc (ci := 6) (q0 := 0) rfl rfl, fun U hU hW => ⟨rfl, by rw [hU], by rw [hU]; exact hPc, va_K.moved hW.alike hK, hDc.weaken (fun _ _ _ _ => trivial)⟩⟩ rfl rfl hl.1 rfl (lv_room (Nat.le_of_ble_eq_true rfl)) dL_isStep_219 ⟨Nat.le_of_ble_eq_true rfl, Nat.le_of_ble_eq_true rfl⟩) hS (fun q _ h => hFc q h) hFc (fun r_153 u t H1 locs ht hvm hw hB hz1 hk1 hS => ?_)
                  obtain ⟨κ1_154, hz_155, hP1, hK1, hD1⟩ := hB
                  rw [ht] at hP1
                  obtain ⟨hP, hD⟩ := va_joinP (wr := []) (rx := []) (pl1 := (pq_WD cI cZ cM cT hh ms gv tn tb κ1_154)) hP hD [] [] rfl rfl (by decide) (by decide) hk1 hFc hP1 hD1
                  generalize H1 = H at hP hS ⊢
                  have hP : va_P (dC, dI) vwCl ([] ++ (pq_WD cI cZ cM cT hh ms gv tn tb κ1_154)) H := hP
                  have hD : va_D A ([] ++ (pq_WD cI cZ cM cT hh ms gv tn tb κ1_154)) := hD
                  refine W.widen (k := 0) (n := 0) (Nat.le_of_ble_eq_true rfl) (Nat.le_of_ble_eq_true rfl) ?_
                  obtain rfl : r_153 = zi (pq_ca T (2 * (pq_q (pq_r T y.toNat)) + (pq_t (pq_r T y.toNat) (pq_p (pq_r T y.toNat)))) (2 : Int)) := hw
                  refine pz_top (y := zi (pq_x T (pq_c (pq_r T y.toNat)))) (congrArg zi (pq_ca_2 hon.2)) ?_
                  refine pz_icmp_ne (tgt := 265) hx hb (by omega) dL_isStep_222 (by decide) (fun c_156 => ?_) (fun c_156 => ?_)
                  · exact (c_156 (by omega)).elim
                  · refine lv_aload_n hx hb dL_isStep_225 rfl (lv_at hl 8 rfl) ?_
                    refine lv_iload_n hx hb dL_isStep_226 rfl (lv_at hl 9 rfl) ?_
                    refine lv_iload_n hx hb dL_isStep_227 rfl (lv_at hl 10 rfl) ?_
                    refine lv_iconst (v := zi 1) hx hb dL_isStep_228 (by decide) ?_
                    refine pz_iadd hx hb dL_isStep_229 ?_
                    refine lv_iload hx hb dL_isStep_230 (lv_at hl 5 rfl) ?_
                    have hPc := hP.part (cx := []) [] rfl
                    have hDc := hD.part (cx := []) [] (by decide) rfl
                    have hFc := va_freeP (cx := []) hD hS hA [] rfl
                    refine va_calli (va_runV (As := [.int (zi i), .int (zi (y + 1)), .int (zi (pq_p (pq_r T y.toNat)))]) (rest := []) ⟨hx, hb, hml, hown, hts⟩ (c_X7_symbol l dC dI cI cZ cM cT H.size hh ms gv tn tb κ1_154 i am aw av ax T kk ka kb (y + 1) (pq_p (pq_r T y.toNat)) (by first | assumption | omega | rfl) hz_155 (by first | assumption | omega | rfl) hμ (by first | assumption | omega | rfl) (by first | assumption | omega | rfl)) (cwV 3 hts (goodIn_of _ (by decide +kernel)) rfl rfl rfl (by decide +kernel) ⟨Nat.le_of_ble_eq_true rfl, Nat.le_of_ble_eq_true rfl⟩) ⟨fun a U g mk q => by obtain ⟨q0, q1, qP, qK, qD⟩ := q; exact ⟨q0, q1, qP, va_K.moved (u := U) (U := U.calling g mk a) (Vm.Alike.refl U.vm) qK, qD⟩, va_recv hK hPc (ci := 6) (q0 := 0) rfl rfl, fun U hU hW => ⟨rfl, by rw [hU], by rw [hU]; exact hPc, va_K.moved hW.alike hK, hDc.weaken (fun _ _ _ _ => trivial)⟩⟩ rfl rfl hl.1 rfl (lv_room (Nat.le_of_ble_eq_true rfl)) dL_isStep_232 ⟨Nat.le_of_ble_eq_true rfl, Nat.le_of_ble_eq_true rfl⟩) hS (fun q _ h => hFc q h) hFc (fun r_157 u t H1 locs ht hvm hw hB hz1 hk1 hS => ?_)
                    obtain ⟨κ1_158, hz_159, hP1, hK1, hD1⟩ := hB
                    rw [ht] at hP1
                    obtain ⟨hP, hD⟩ := va_joinP (wr := []) (rx := []) (pl1 := (pq_WD cI cZ cM cT hh ms gv tn tb κ1_158)) hP hD [] [] rfl rfl (by decide) (by decide) hk1 hFc hP1 hD1
                    generalize H1 = H at hP hS ⊢
                    have hP : va_P (dC, dI) vwCl ([] ++ (pq_WD cI cZ cM cT hh ms gv tn tb κ1_158)) H := hP
                    have hD : va_D A ([] ++ (pq_WD cI cZ cM cT hh ms gv tn tb κ1_158)) := hD
                    refine W.widen (k := 0) (n := 0) (Nat.le_of_ble_eq_true rfl) (Nat.le_of_ble_eq_true rfl) ?_
                    obtain rfl : r_157 = zi (pq_t (pq_r T (y + 1).toNat) (pq_p (pq_r T y.toNat))) := hw
                    refine pz_top (y := zi (pq_w T (pq_c (pq_r T y.toNat)))) (congrArg zi ((by rw [hgo, pq_t_go]; exact pq_up_self _ _ _))) ?_
                    refine lv_iload hx hb dL_isStep_235 (lv_at hl 1 rfl) ?_
                    refine pz_icmp_ne (tgt := 265) hx hb (by omega) dL_isStep_237 (by decide) (fun c_160 => ?_) (fun c_160 => ?_)
                    · exact (c_160 (by omega)).elim
                    · refine lv_aload_n hx hb dL_isStep_240 rfl (lv_at hl 8 rfl) ?_
                      refine lv_iload_n hx hb dL_isStep_241 rfl (lv_at hl 9 rfl) ?_
                      refine lv_iload_n hx hb dL_isStep_242 rfl (lv_at hl 10 rfl) ?_
                      refine lv_iconst (v := zi 1) hx hb dL_isStep_243 (by decide) ?_
                      refine pz_iadd hx hb dL_isStep_244 ?_
                      refine lv_iconst (v := zi 3) hx hb dL_isStep_245 (by decide) ?_
                      have hPc := hP.part (cx := []) [] rfl
                      have hDc := hD.part (cx := []) [] (by decide) rfl
                      have hFc := va_freeP (cx := []) hD hS hA [] rfl
                      refine va_calli (va_runV (As := [.int (zi i), .int (zi (y + 1)), .int (zi 3)]) (rest := []) ⟨hx, hb, hml, hown, hts⟩ (c_X7_at l dC dI cI cZ cM cT H.size hh ms gv tn tb κ1_158 i am aw av ax T kk ka kb (y + 1) 3 (by first | assumption | omega | rfl) hz_159 (by first | assumption | omega | rfl) hμ (by first | assumption | omega | rfl) (by first | assumption | omega | rfl)) (cwV 3 hts (goodIn_of _ (by decide +kernel)) rfl rfl rfl (by decide +kernel) ⟨Nat.le_of_ble_eq_true rfl, Nat.le_of_ble_eq_true rfl⟩) ⟨fun a U g mk q => by obtain ⟨q0, q1, qP, qK, qD⟩ := q; exact ⟨q0, q1, qP, va_K.moved (u := U) (U := U.calling g mk a) (Vm.Alike.refl U.vm) qK, qD⟩, va_recv hK hPc (ci := 6) (q0 := 0) rfl rfl, fun U hU hW => ⟨rfl, by rw [hU], by rw [hU]; exact hPc, va_K.moved hW.alike hK, hDc.weaken (fun _ _ _ _ => trivial)⟩⟩ rfl rfl hl.1 rfl (lv_room (Nat.le_of_ble_eq_true rfl)) dL_isStep_246 ⟨Nat.le_of_ble_eq_true rfl, Nat.le_of_ble_eq_true rfl⟩) hS (fun q _ h => hFc q h) hFc (fun r_161 u t H1 locs ht hvm hw hB hz1 hk1 hS => ?_)
                      obtain ⟨κ1_162, hz_163, hP1, hK1, hD1⟩ := hB
                      rw [ht] at hP1
                      obtain ⟨hP, hD⟩ := va_joinP (wr := []) (rx := []) (pl1 := (pq_WD cI cZ cM cT hh ms gv tn tb κ1_162)) hP hD [] [] rfl rfl (by decide) (by decide) hk1 hFc hP1 hD1
                      generalize H1 = H at hP hS ⊢
                      have hP : va_P (dC, dI) vwCl ([] ++ (pq_WD cI cZ cM cT hh ms gv tn tb κ1_162)) H := hP
                      have hD : va_D A ([] ++ (pq_WD cI cZ cM cT hh ms gv tn tb κ1_162)) := hD
                      refine W.widen (k := 0) (n := 0) (Nat.le_of_ble_eq_true rfl) (Nat.le_of_ble_eq_true rfl) ?_
                      obtain rfl : r_161 = zi (pq_av (pq_r T (y + 1).toNat) (3 : Int)) := hw
                      refine pz_top (y := zi (pq_ones (pq_r T y.toNat) + pq_w T (pq_c (pq_r T y.toNat)) - pq_t (pq_r T y.toNat) (pq_p (pq_r T y.toNat)))) (congrArg zi ((show pq_av (pq_r T (y + 1).toNat) 3 = pq_ones (pq_r T (y + 1).toNat) from rfl).trans (by rw [hgo]; exact pq_ones_go hok hwf hon))) ?_
                      refine lv_aload_n hx hb dL_isStep_249 rfl (lv_at hl 8 rfl) ?_
                      refine lv_iload_n hx hb dL_isStep_250 rfl (lv_at hl 9 rfl) ?_
                      refine lv_iload_n hx hb dL_isStep_251 rfl (lv_at hl 10 rfl) ?_
                      refine lv_iconst (v := zi 3) hx hb dL_isStep_252 (by decide) ?_
                      have hPc := hP.part (cx := []) [] rfl
                      have hDc := hD.part (cx := []) [] (by decide) rfl
                      have hFc := va_freeP (cx := []) hD hS hA [] rfl
                      refine va_calli (va_runV (As := [.int (zi i), .int (zi y), .int (zi 3)]) (rest := [.int (zi (pq_ones (pq_r T y.toNat) + pq_w T (pq_c (pq_r T y.toNat)) - pq_t (pq_r T y.toNat) (pq_p (pq_r T y.toNat))))]) ⟨hx, hb, hml, hown, hts⟩ (c_X7_at l dC dI cI cZ cM cT H.size hh ms gv tn tb κ1_162 i am aw av ax T kk ka kb y 3 (by first | assumption | omega | rfl) hz_163 (by first | assumption | omega | rfl) hμ (by first | assumption | omega | rfl) (by first | assumption | omega | rfl)) (cwV 3 hts (goodIn_of _ (by decide +kernel)) rfl rfl rfl (by decide +kernel) ⟨Nat.le_of_ble_eq_true rfl, Nat.le_of_ble_eq_true rfl⟩) ⟨fun a U g mk q => by obtain ⟨q0, q1, qP, qK, qD⟩ := q; exact ⟨q0, q1, qP, va_K.moved (u := U) (U := U.calling g mk a) (Vm.Alike.refl U.vm) qK, qD⟩, va_recv hK hPc (ci := 6) (q0 := 0) rfl rfl, fun U hU hW => ⟨rfl, by rw [hU], by rw [hU]; exact hPc, va_K.moved hW.alike hK, hDc.weaken (fun _ _ _ _ => trivial)⟩⟩ rfl rfl hl.1 rfl (lv_room (Nat.le_of_ble_eq_true rfl)) dL_isStep_253 ⟨Nat.le_of_ble_eq_true rfl, Nat.le_of_ble_eq_true rfl⟩) hS (fun q _ h => hFc q h) hFc (fun r_164 u t H1 locs ht hvm hw hB hz1 hk1 hS => ?_)
                      obtain ⟨κ1_165, hz_166, hP1, hK1, hD1⟩ := hB
                      rw [ht] at hP1
                      obtain ⟨hP, hD⟩ := va_joinP (wr := []) (rx := []) (pl1 := (pq_WD cI cZ cM cT hh ms gv tn tb κ1_165)) hP hD [] [] rfl rfl (by decide) (by decide) hk1 hFc hP1 hD1
                      generalize H1 = H at hP hS ⊢
                      have hP : va_P (dC, dI) vwCl ([] ++ (pq_WD cI cZ cM cT hh ms gv tn tb κ1_165)) H := hP
                      have hD : va_D A ([] ++ (pq_WD cI cZ cM cT hh ms gv tn tb κ1_165)) := hD
                      refine W.widen (k := 0) (n := 0) (Nat.le_of_ble_eq_true rfl) (Nat.le_of_ble_eq_true rfl) ?_
                      obtain rfl : r_164 = zi (pq_av (pq_r T y.toNat) (3 : Int)) := hw
                      refine pz_top (y := zi (pq_ones (pq_r T y.toNat))) (congrArg zi (rfl)) ?_
                      refine lv_iload hx hb dL_isStep_256 (lv_at hl 1 rfl) ?_
                      refine pz_iadd hx hb dL_isStep_258 ?_
                      refine lv_iload hx hb dL_isStep_259 (lv_at hl 3 rfl) ?_
                      refine pz_isub hx hb dL_isStep_261 ?_
                      refine pz_icmp_eq (tgt := 267) hx hb (by omega) dL_isStep_262 (by decide) (fun c_167 => ?_) (fun c_167 => ?_)
                      · refine lv_bipush (v := zi (-9)) hx hb dL_isStep_267 (by decide) ?_
                        refine lv_istore (lv' := [(11, .int (zi (-9))), (10, .int (zi 1)), (9, .int (zi (pq_w T (pq_c (pq_r T y.toNat))))), (8, .int (zi 1)), (7, .int (zi (pq_t (pq_r T y.toNat) (pq_p (pq_r T y.toNat))))), (6, .int (zi (pq_p (pq_r T (y + 1).toNat)))), (5, .int (zi (pq_p (pq_r T y.toNat)))), (4, .int (zi (pq_q (pq_r T y.toNat)))), (3, .int (zi (pq_d (pq_r T y.toNat)))), (0, .ref hh), (1, .int (zi i)), (2, .int (zi y))]) hx hb dL_isStep_269 hl (by decide) rfl (fun ls hl => ?_)
                        refine pz_loop (fun n9 H locs ls => ∃ (j : Int) (κ2 : pq_S) , n9 = (10 - j).toNat ∧ (-9 ≤ j ∧ j ≤ 10) ∧ (pq_Sok κ2) ∧ va_P (dC, dI) vwCl ([] ++ (pq_WD cI cZ cM cT hh ms gv tn tb κ2)) H ∧ va_D A ([] ++ (pq_WD cI cZ cM cT hh ms gv tn tb κ2)) ∧ va_S A s.heap H locs ∧ lv_has ls 15 [(10, .int (zi 1)), (9, .int (zi (pq_w T (pq_c (pq_r T y.toNat))))), (8, .int (zi 1)), (7, .int (zi (pq_t (pq_r T y.toNat) (pq_p (pq_r T y.toNat))))), (6, .int (zi (pq_p (pq_r T (y + 1).toNat)))), (5, .int (zi (pq_p (pq_r T y.toNat)))), (4, .int (zi (pq_q (pq_r T y.toNat)))), (3, .int (zi (pq_d (pq_r T y.toNat)))), (0, .ref hh), (1, .int (zi i)), (2, .int (zi y)), (11, .int (zi j))]) (fun n_271 H locs ls hI ih_271 => ?_) _ ⟨-9, κ1_165, rfl, (by first | assumption | omega | rfl), hz_166, hP, hD, hS, lv_sub hl [1, 2, 3, 4, 5, 6, 7, 8, 9, 10, 11, 0] rfl⟩
                        obtain ⟨j, κ2, hn_271, hj, hκ2, hP, hD, hS, hl⟩ := hI
                        refine lv_iload hx hb dL_isStep_271 (lv_at hl 11 rfl) ?_
                        refine lv_bipush (v := zi 10) hx hb dL_isStep_273 (by decide) ?_
                        refine pz_icmp_ge (tgt := 314) hx hb (by omega) dL_isStep_275 (by decide) (fun c_168 => ?_) (fun c_168 => ?_)
                        · refine lv_aload_n hx hb dL_isStep_314 rfl (lv_at hl 8 rfl) ?_
                          refine lv_iload_n hx hb dL_isStep_315 rfl (lv_at hl 9 rfl) ?_
                          refine lv_iload_n hx hb dL_isStep_316 rfl (lv_at hl 10 rfl) ?_
                          refine lv_iconst (v := zi 5) hx hb dL_isStep_317 (by decide) ?_
                          have hPc := hP.part (cx := []) [] rfl
                          have hDc := hD.part (cx := []) [] (by decide) rfl
                          have hFc := va_freeP (cx := []) hD hS hA [] rfl
                          refine va_calli (va_runV (As := [.int (zi i), .int (zi y), .int (zi 5)]) (rest := []) ⟨hx, hb, hml, hown, hts⟩ (c_X7_at l dC dI cI cZ cM cT H.size hh ms gv tn tb κ2 i am aw av ax T kk ka kb y 5 (by first | assumption | omega | rfl) hκ2 (by first | assumption | omega | rfl) hμ (by first | assumption | omega | rfl) (by first | assumption | omega | rfl)) (cwV 3 hts (goodIn_of _ (by decide +kernel)) rfl rfl rfl (by decide +kernel) ⟨Nat.le_of_ble_eq_true rfl, Nat.le_of_ble_eq_true rfl⟩) ⟨fun a U g mk q => by obtain ⟨q0, q1, qP, qK, qD⟩ := q; exact ⟨q0, q1, qP, va_K.moved (u := U) (U := U.calling g mk a) (Vm.Alike.refl U.vm) qK, qD⟩, va_recv hK hPc (ci := 6) (q0 := 0) rfl rfl, fun U hU hW => ⟨rfl, by rw [hU], by rw [hU]; exact hPc, va_K.moved hW.alike hK, hDc.weaken (fun _ _ _ _ => trivial)⟩⟩ rfl rfl hl.1 rfl (lv_room (Nat.le_of_ble_eq_true rfl)) dL_isStep_318 ⟨Nat.le_of_ble_eq_true rfl, Nat.le_of_ble_eq_true rfl⟩) hS (fun q _ h => hFc q h) hFc (fun r_169 u t H1 locs ht hvm hw hB hz1 hk1 hS => ?_)
                          obtain ⟨κ1_170, hz_171, hP1, hK1, hD1⟩ := hB
                          rw [ht] at hP1
                          obtain ⟨hP, hD⟩ := va_joinP (wr := []) (rx := []) (pl1 := (pq_WD cI cZ cM cT hh ms gv tn tb κ1_170)) hP hD [] [] rfl rfl (by decide) (by decide) hk1 hFc hP1 hD1
                          generalize H1 = H at hP hS ⊢
                          have hP : va_P (dC, dI) vwCl ([] ++ (pq_WD cI cZ cM cT hh ms gv tn tb κ1_170)) H := hP
                          have hD : va_D A ([] ++ (pq_WD cI cZ cM cT hh ms gv tn tb κ1_170)) := hD
                          refine W.widen (k := 0) (n := 0) (Nat.le_of_ble_eq_true rfl) (Nat.le_of_ble_eq_true rfl) ?_
                          obtain rfl : r_169 = zi (pq_av (pq_r T y.toNat) (5 : Int)) := hw
                          refine pz_top (y := zi (pq_l (pq_r T y.toNat))) (congrArg zi (rfl)) ?_
                          refine lv_istore (lv' := [(11, .int (zi (pq_l (pq_r T y.toNat)))), (10, .int (zi 1)), (9, .int (zi (pq_w T (pq_c (pq_r T y.toNat))))), (8, .int (zi 1)), (7, .int (zi (pq_t (pq_r T y.toNat) (pq_p (pq_r T y.toNat))))), (6, .int (zi (pq_p (pq_r T (y + 1).toNat)))), (5, .int (zi (pq_p (pq_r T y.toNat)))), (4, .int (zi (pq_q (pq_r T y.toNat)))), (3, .int (zi (pq_d (pq_r T y.toNat)))), (0, .ref hh), (1, .int (zi i)), (2, .int (zi y))]) hx hb dL_isStep_321 hl (by decide) rfl (fun ls hl => ?_)
                          refine lv_aload_n hx hb dL_isStep_323 rfl (lv_at hl 9 rfl) ?_
                          refine lv_iload_n hx hb dL_isStep_324 rfl (lv_at hl 10 rfl) ?_
                          refine lv_iload_n hx hb dL_isStep_325 rfl (lv_at hl 11 rfl) ?_
                          refine lv_bipush (v := zi 6) hx hb dL_isStep_326 (by decide) ?_
                          have hPc := hP.part (cx := []) [] rfl
                          have hDc := hD.part (cx := []) [] (by decide) rfl
                          have hFc := va_freeP (cx := []) hD hS hA [] rfl
                          refine va_calli (va_runV (As := [.int (zi i), .int (zi y), .int (zi 6)]) (rest := []) ⟨hx, hb, hml, hown, hts⟩ (c_X7_at l dC dI cI cZ cM cT H.size hh ms gv tn tb κ1_170 i am aw av ax T kk ka kb y 6 (by first | assumption | omega | rfl) hz_171 (by first | assumption | omega | rfl) hμ (by first | assumption | omega | rfl) (by first | assumption | omega | rfl)) (cwV 3 hts (goodIn_of _ (by decide +kernel)) rfl rfl rfl (by decide +kernel) ⟨Nat.le_of_ble_eq_true rfl, Nat.le_of_ble_eq_true rfl⟩) ⟨fun a U g mk q => by obtain ⟨q0, q1, qP, qK, qD⟩ := q; exact ⟨q0, q1, qP, va_K.moved (u := U) (U := U.calling g mk a) (Vm.Alike.refl U.vm) qK, qD⟩, va_recv hK hPc (ci := 6) (q0 := 0) rfl rfl, fun U hU hW => ⟨rfl, by rw [hU], by rw [hU]; exact hPc, va_K.moved hW.alike hK, hDc.weaken (fun _ _ _ _ => trivial)⟩⟩ rfl rfl hl.1 rfl (lv_room (Nat.le_of_ble_eq_true rfl)) dL_isStep_328 ⟨Nat.le_of_ble_eq_true rfl, Nat.le_of_ble_eq_true rfl⟩) hS (fun q _ h => hFc q h) hFc (fun r_172 u t H1 locs ht hvm hw hB hz1 hk1 hS => ?_)
                          obtain ⟨κ1_173, hz_174, hP1, hK1, hD1⟩ := hB
                          rw [ht] at hP1
                          obtain ⟨hP, hD⟩ := va_joinP (wr := []) (rx := []) (pl1 := (pq_WD cI cZ cM cT hh ms gv tn tb κ1_173)) hP hD [] [] rfl rfl (by decide) (by decide) hk1 hFc hP1 hD1
                          generalize H1 = H at hP hS ⊢
                          have hP : va_P (dC, dI) vwCl ([] ++ (pq_WD cI cZ cM cT hh ms gv tn tb κ1_173)) H := hP
                          have hD : va_D A ([] ++ (pq_WD cI cZ cM cT hh ms gv tn tb κ1_173)) := hD
                          refine W.widen (k := 0) (n := 0) (Nat.le_of_ble_eq_true rfl) (Nat.le_of_ble_eq_true rfl) ?_
                          obtain rfl : r_172 = zi (pq_av (pq_r T y.toNat) (6 : Int)) := hw
                          refine pz_top (y := zi (pq_g (pq_r T y.toNat))) (congrArg zi (rfl)) ?_
                          refine lv_istore (lv' := [(12, .int (zi (pq_g (pq_r T y.toNat)))), (11, .int (zi (pq_l (pq_r T y.toNat)))), (10, .int (zi 1)), (9, .int (zi (pq_w T (pq_c (pq_r T y.toNat))))), (8, .int (zi 1)), (7, .int (zi (pq_t (pq_r T y.toNat) (pq_p (pq_r T y.toNat))))), (6, .int (zi (pq_p (pq_r T (y + 1).toNat)))), (5, .int (zi (pq_p (pq_r T y.toNat)))), (4, .int (zi (pq_q (pq_r T y.toNat)))), (3, .int (zi (pq_d (pq_r T y.toNat)))), (0, .ref hh), (1, .int (zi i)), (2, .int (zi y))]) hx hb dL_isStep_331 hl (by decide) rfl (fun ls hl => ?_)
                          refine lv_aload_n hx hb dL_isStep_333 rfl (lv_at hl 10 rfl) ?_
                          refine lv_iload_n hx hb dL_isStep_334 rfl (lv_at hl 11 rfl) ?_
                          refine lv_iload_n hx hb dL_isStep_335 rfl (lv_at hl 12 rfl) ?_
                          refine lv_iconst (v := zi 4) hx hb dL_isStep_336 (by decide) ?_
                          have hPc := hP.part (cx := []) [] rfl
                          have hDc := hD.part (cx := []) [] (by decide) rfl
                          have hFc := va_freeP (cx := []) hD hS hA [] rfl
                          refine va_calli (va_runV (As := [.int (zi i), .int (zi y), .int (zi 4)]) (rest := []) ⟨hx, hb, hml, hown, hts⟩ (c_X7_at l dC dI cI cZ cM cT H.size hh ms gv tn tb κ1_173 i am aw av ax T kk ka kb y 4 (by first | assumption | omega | rfl) hz_174 (by first | assumption | omega | rfl) hμ (by first | assumption | omega | rfl) (by first | assumption | omega | rfl)) (cwV 3 hts (goodIn_of _ (by decide +kernel)) rfl rfl rfl (by decide +kernel) ⟨Nat.le_of_ble_eq_true rfl, Nat.le_of_ble_eq_true rfl⟩) ⟨fun a U g mk q => by obtain ⟨q0, q1, qP, qK, qD⟩ := q; exact ⟨q0, q1, qP, va_K.moved (u := U) (U := U.calling g mk a) (Vm.Alike.refl U.vm) qK, qD⟩, va_recv hK hPc (ci := 6) (q0 := 0) rfl rfl, fun U hU hW => ⟨rfl, by rw [hU], by rw [hU]; exact hPc, va_K.moved hW.alike hK, hDc.weaken (fun _ _ _ _ => trivial)⟩⟩ rfl rfl hl.1 rfl (lv_room (Nat.le_of_ble_eq_true rfl)) dL_isStep_337 ⟨Nat.le_of_ble_eq_true rfl, Nat.le_of_ble_eq_true rfl⟩) hS (fun q _ h => hFc q h) hFc (fun r_175 u t H1 locs ht hvm hw hB hz1 hk1 hS => ?_)
                          obtain ⟨κ1_176, hz_177, hP1, hK1, hD1⟩ := hB
                          rw [ht] at hP1
                          obtain ⟨hP, hD⟩ := va_joinP (wr := []) (rx := []) (pl1 := (pq_WD cI cZ cM cT hh ms gv tn tb κ1_176)) hP hD [] [] rfl rfl (by decide) (by decide) hk1 hFc hP1 hD1
                          generalize H1 = H at hP hS ⊢
                          have hP : va_P (dC, dI) vwCl ([] ++ (pq_WD cI cZ cM cT hh ms gv tn tb κ1_176)) H := hP
                          have hD : va_D A ([] ++ (pq_WD cI cZ cM cT hh ms gv tn tb κ1_176)) := hD
                          refine W.widen (k := 0) (n := 0) (Nat.le_of_ble_eq_true rfl) (Nat.le_of_ble_eq_true rfl) ?_
                          obtain rfl : r_175 = zi (pq_av (pq_r T y.toNat) (4 : Int)) := hw
                          refine pz_top (y := zi (pq_runs (pq_r T y.toNat))) (congrArg zi (rfl)) ?_
                          refine lv_istore (lv' := [(13, .int (zi (pq_runs (pq_r T y.toNat)))), (12, .int (zi (pq_g (pq_r T y.toNat)))), (11, .int (zi (pq_l (pq_r T y.toNat)))), (10, .int (zi 1)), (9, .int (zi (pq_w T (pq_c (pq_r T y.toNat))))), (8, .int (zi 1)), (7, .int (zi (pq_t (pq_r T y.toNat) (pq_p (pq_r T y.toNat))))), (6, .int (zi (pq_p (pq_r T (y + 1).toNat)))), (5, .int (zi (pq_p (pq_r T y.toNat)))), (4, .int (zi (pq_q (pq_r T y.toNat)))), (3, .int (zi (pq_d (pq_r T y.toNat)))), (0, .ref hh), (1, .int (zi i)), (2, .int (zi y))]) hx hb dL_isStep_340 hl (by decide) rfl (fun ls hl => ?_)
                          refine lv_aload_n hx hb dL_isStep_342 rfl (lv_at hl 11 rfl) ?_
                          refine lv_iload_n hx hb dL_isStep_343 rfl (lv_at hl 12 rfl) ?_
                          refine lv_iload_n hx hb dL_isStep_344 rfl (lv_at hl 13 rfl) ?_
                          refine lv_iconst (v := zi 3) hx hb dL_isStep_345 (by decide) ?_
                          have hPc := hP.part (cx := []) [] rfl
                          have hDc := hD.part (cx := []) [] (by decide) rfl
                          have hFc := va_freeP (cx := []) hD hS hA [] rfl
                          refine va_calli (va_runV (As := [.int (zi i), .int (zi y), .int (zi 3)]) (rest := []) ⟨hx, hb, hml, hown, hts⟩ (c_X7_at l dC dI cI cZ cM cT H.size hh ms gv tn tb κ1_176 i am aw av ax T kk ka kb y 3 (by first | assumption | omega | rfl) hz_177 (by first | assumption | omega | rfl) hμ (by first | assumption | omega | rfl) (by first | assumption | omega | rfl)) (cwV 3 hts (goodIn_of _ (by decide +kernel)) rfl rfl rfl (by decide +kernel) ⟨Nat.le_of_ble_eq_true rfl, Nat.le_of_ble_eq_true rfl⟩) ⟨fun a U g mk q => by obtain ⟨q0, q1, qP, qK, qD⟩ := q; exact ⟨q0, q1, qP, va_K.moved (u := U) (U := U.calling g mk a) (Vm.Alike.refl U.vm) qK, qD⟩, va_recv hK hPc (ci := 6) (q0 := 0) rfl rfl, fun U hU hW => ⟨rfl, by rw [hU], by rw [hU]; exact hPc, va_K.moved hW.alike hK, hDc.weaken (fun _ _ _ _ => trivial)⟩⟩ rfl rfl hl.1 rfl (lv_room (Nat.le_of_ble_eq_true rfl)) dL_isStep_346 ⟨Nat.le_of_ble_eq_true rfl, Nat.le_of_ble_eq_true rfl⟩) hS (fun q _ h => hFc q h) hFc (fun r_178 u t H1 locs ht hvm hw hB hz1 hk1 hS => ?_)
                          obtain ⟨κ1_179, hz_180, hP1, hK1, hD1⟩ := hB
                          rw [ht] at hP1
                          obtain ⟨hP, hD⟩ := va_joinP (wr := []) (rx := []) (pl1 := (pq_WD cI cZ cM cT hh ms gv tn tb κ1_179)) hP hD [] [] rfl rfl (by decide) (by decide) hk1 hFc hP1 hD1
                          generalize H1 = H at hP hS ⊢
                          have hP : va_P (dC, dI) vwCl ([] ++ (pq_WD cI cZ cM cT hh ms gv tn tb κ1_179)) H := hP
                          have hD : va_D A ([] ++ (pq_WD cI cZ cM cT hh ms gv tn tb κ1_179)) := hD
                          refine W.widen (k := 0) (n := 0) (Nat.le_of_ble_eq_true rfl) (Nat.le_of_ble_eq_true rfl) ?_
                          obtain rfl : r_178 = zi (pq_av (pq_r T y.toNat) (3 : Int)) := hw
                          refine pz_top (y := zi (pq_ones (pq_r T y.toNat))) (congrArg zi (rfl)) ?_
                          refine lv_istore (lv' := [(14, .int (zi (pq_ones (pq_r T y.toNat)))), (13, .int (zi (pq_runs (pq_r T y.toNat)))), (12, .int (zi (pq_g (pq_r T y.toNat)))), (11, .int (zi (pq_l (pq_r T y.toNat)))), (10, .int (zi 1)), (9, .int (zi (pq_w T (pq_c (pq_r T y.toNat))))), (8, .int (zi 1)), (7, .int (zi (pq_t (pq_r T y.toNat) (pq_p (pq_r T y.toNat))))), (6, .int (zi (pq_p (pq_r T (y + 1).toNat)))), (5, .int (zi (pq_p (pq_r T y.toNat)))), (4, .int (zi (pq_q (pq_r T y.toNat)))), (3, .int (zi (pq_d (pq_r T y.toNat)))), (0, .ref hh), (1, .int (zi i)), (2, .int (zi y))]) hx hb dL_isStep_349 hl (by decide) rfl (fun ls hl => ?_)
                          refine lv_aload_n hx hb dL_isStep_351 rfl (lv_at hl 12 rfl) ?_
                          refine lv_iload_n hx hb dL_isStep_352 rfl (lv_at hl 13 rfl) ?_
                          refine lv_iload_n hx hb dL_isStep_353 rfl (lv_at hl 14 rfl) ?_
                          refine lv_iconst (v := zi 1) hx hb dL_isStep_354 (by decide) ?_
                          refine pz_iadd hx hb dL_isStep_355 ?_
                          refine lv_iconst (v := zi 5) hx hb dL_isStep_356 (by decide) ?_
                          have hPc := hP.part (cx := []) [] rfl
                          have hDc := hD.part (cx := []) [] (by decide) rfl
                          have hFc := va_freeP (cx := []) hD hS hA [] rfl
                          refine va_calli (va_runV (As := [.int (zi i), .int (zi (y + 1)), .int (zi 5)]) (rest := []) ⟨hx, hb, hml, hown, hts⟩ (c_X7_at l dC dI cI cZ cM cT H.size hh ms gv tn tb κ1_179 i am aw av ax T kk ka kb (y + 1) 5 (by first | assumption | omega | rfl) hz_180 (by first | assumption | omega | rfl) hμ (by first | assumption | omega | rfl) (by first | assumption | omega | rfl)) (cwV 3 hts (goodIn_of _ (by decide +kernel)) rfl rfl rfl (by decide +kernel) ⟨Nat.le_of_ble_eq_true rfl, Nat.le_of_ble_eq_true rfl⟩) ⟨fun a U g mk q => by obtain ⟨q0, q1, qP, qK, qD⟩ := q; exact ⟨q0, q1, qP, va_K.moved (u := U) (U := U.calling g mk a) (Vm.Alike.refl U.vm) qK, qD⟩, va_recv hK hPc (ci := 6) (q0 := 0) rfl rfl, fun U hU hW => ⟨rfl, by rw [hU], by rw [hU]; exact hPc, va_K.moved hW.alike hK, hDc.weaken (fun _ _ _ _ => trivial)⟩⟩ rfl rfl hl.1 rfl (lv_room (Nat.le_of_ble_eq_true rfl)) dL_isStep_357 ⟨Nat.le_of_ble_eq_true rfl, Nat.le_of_ble_eq_true rfl⟩) hS (fun q _ h => hFc q h) hFc (fun r_181 u t H1 locs ht hvm hw hB hz1 hk1 hS => ?_)
                          obtain ⟨κ1_182, hz_183, hP1, hK1, hD1⟩ := hB
                          rw [ht] at hP1
                          obtain ⟨hP, hD⟩ := va_joinP (wr := []) (rx := []) (pl1 := (pq_WD cI cZ cM cT hh ms gv tn tb κ1_182)) hP hD [] [] rfl rfl (by decide) (by decide) hk1 hFc hP1 hD1
                          generalize H1 = H at hP hS ⊢
                          have hP : va_P (dC, dI) vwCl ([] ++ (pq_WD cI cZ cM cT hh ms gv tn tb κ1_182)) H := hP
                          have hD : va_D A ([] ++ (pq_WD cI cZ cM cT hh ms gv tn tb κ1_182)) := hD
                          refine W.widen (k := 0) (n := 0) (Nat.le_of_ble_eq_true rfl) (Nat.le_of_ble_eq_true rfl) ?_
                          obtain rfl : r_181 = zi (pq_av (pq_r T (y + 1).toNat) (5 : Int)) := hw
                          refine pz_top (y := zi (min (pq_l (pq_r T y.toNat)) (pq_p (pq_r T y.toNat) + pq_v T (pq_c (pq_r T y.toNat))))) (congrArg zi ((show pq_av (pq_r T (y + 1).toNat) 5 = pq_l (pq_r T (y + 1).toNat) from rfl).trans (by rw [hgo]; rfl))) ?_
                          refine lv_iload hx hb dL_isStep_360 (lv_at hl 3 rfl) ?_
                          refine lv_iload hx hb dL_isStep_362 (lv_at hl 8 rfl) ?_
                          refine va_mmin hx hb (by rw [hml]; exact hl.1.symm) hown (hts (.methodLink RL 86 Lib.Math.min.name) (by decide +kernel)) (hts (.static Lib.Math.min.name) (by decide +kernel)) (hts (.initialized "java/lang/Math") (by decide +kernel)) (hts (.code Lib.Math.min.name Lib.Math.min.code 2 (some .int)) (by decide +kernel)) (Nat.le_of_ble_eq_true rfl) (Nat.le_of_ble_eq_true rfl) (Nat.le_of_ble_eq_true rfl) (Nat.le_of_ble_eq_true rfl) dL_isStep_364 ?_
                          refine pz_top (y := (zi (min (pq_l (pq_r T y.toNat)) (pq_p (pq_r T (y + 1).toNat))))) (zi_min (by omega)) ?_
                          refine pz_icmp_ne (tgt := 462) hx hb (by omega) dL_isStep_367 (by decide) (fun c_184 => ?_) (fun c_184 => ?_)
                          · exact (c_184 (by omega)).elim
                          · refine lv_aload_n hx hb dL_isStep_370 rfl (lv_at hl 12 rfl) ?_
                            refine lv_iload_n hx hb dL_isStep_371 rfl (lv_at hl 13 rfl) ?_
                            refine lv_iload_n hx hb dL_isStep_372 rfl (lv_at hl 14 rfl) ?_
                            refine lv_iconst (v := zi 1) hx hb dL_isStep_373 (by decide) ?_
                            refine pz_iadd hx hb dL_isStep_374 ?_
                            refine lv_bipush (v := zi 6) hx hb dL_isStep_375 (by decide) ?_
                            have hPc := hP.part (cx := []) [] rfl
                            have hDc := hD.part (cx := []) [] (by decide) rfl
                            have hFc := va_freeP (cx := []) hD hS hA [] rfl
                            refine va_calli (va_runV (As := [.int (zi i), .int (zi (y + 1)), .int (zi 6)]) (rest := []) ⟨hx, hb, hml, hown, hts⟩ (c_X7_at l dC dI cI cZ cM cT H.size hh ms gv tn tb κ1_182 i am aw av ax T kk ka kb (y + 1) 6 (by first | assumption | omega | rfl) hz_183 (by first | assumption | omega | rfl) hμ (by first | assumption | omega | rfl) (by first | assumption | omega | rfl)) (cwV 3 hts (goodIn_of _ (by decide +kernel)) rfl rfl rfl (by decide +kernel) ⟨Nat.le_of_ble_eq_true rfl, Nat.le_of_ble_eq_true rfl⟩) ⟨fun a U g mk q => by obtain ⟨q0, q1, qP, qK, qD⟩ := q; exact ⟨q0, q1, qP, va_K.moved (u := U) (U := U.calling g mk a) (Vm.Alike.refl U.vm) qK, qD⟩, va_recv hK hPc (ci := 6) (q0 := 0) rfl rfl, fun U hU hW => ⟨rfl, by rw [hU], by rw [hU]; exact hPc, va_K.moved hW.alike hK, hDc.weaken (fun _ _ _ _ => trivial)⟩⟩ rfl rfl hl.1 rfl (lv_room (Nat.le_of_ble_eq_true rfl)) dL_isStep_377 ⟨Nat.le_of_ble_eq_true rfl, Nat.le_of_ble_eq_true rfl⟩) hS (fun q _ h => hFc q h) hFc (fun r_185 u t H1 locs ht hvm hw hB hz1 hk1 hS => ?_)
                            obtain ⟨κ1_186, hz_187, hP1, hK1, hD1⟩ := hB
                            rw [ht] at hP1
                            obtain ⟨hP, hD⟩ := va_joinP (wr := []) (rx := []) (pl1 := (pq_WD cI cZ cM cT hh ms gv tn tb κ1_186)) hP hD [] [] rfl rfl (by decide) (by decide) hk1 hFc hP1 hD1
                            generalize H1 = H at hP hS ⊢
                            have hP : va_P (dC, dI) vwCl ([] ++ (pq_WD cI cZ cM cT hh ms gv tn tb κ1_186)) H := hP
                            have hD : va_D A ([] ++ (pq_WD cI cZ cM cT hh ms gv tn tb κ1_186)) := hD
                            refine W.widen (k := 0) (n := 0) (Nat.le_of_ble_eq_true rfl) (Nat.le_of_ble_eq_true rfl) ?_
                            obtain rfl : r_185 = zi (pq_av (pq_r T (y + 1).toNat) (6 : Int)) := hw
                            refine pz_top (y := zi (max (pq_g (pq_r T y.toNat)) (pq_p (pq_r T y.toNat) + pq_v T (pq_c (pq_r T y.toNat))))) (congrArg zi ((show pq_av (pq_r T (y + 1).toNat) 6 = pq_g (pq_r T (y + 1).toNat) from rfl).trans (by rw [hgo]; rfl))) ?_
                            refine lv_iload hx hb dL_isStep_380 (lv_at hl 2 rfl) ?_
                            refine lv_iload hx hb dL_isStep_382 (lv_at hl 8 rfl) ?_
                            refine va_mmax hx hb (by rw [hml]; exact hl.1.symm) hown (hts (.methodLink RL 91 Lib.Math.max.name) (by decide +kernel)) (hts (.static Lib.Math.max.name) (by decide +kernel)) (hts (.initialized "java/lang/Math") (by decide +kernel)) (hts (.code Lib.Math.max.name Lib.Math.max.code 2 (some .int)) (by decide +kernel)) (Nat.le_of_ble_eq_true rfl) (Nat.le_of_ble_eq_true rfl) (Nat.le_of_ble_eq_true rfl) (Nat.le_of_ble_eq_true rfl) dL_isStep_384 ?_
                            refine pz_top (y := (zi (max (pq_g (pq_r T y.toNat)) (pq_p (pq_r T (y + 1).toNat))))) (zi_max (by omega)) ?_
                            refine pz_icmp_ne (tgt := 462) hx hb (by omega) dL_isStep_387 (by decide) (fun c_188 => ?_) (fun c_188 => ?_)
                            · exact (c_188 (by omega)).elim
                            · refine lv_iload hx hb dL_isStep_390 (lv_at hl 1 rfl) ?_
                              refine lv_iconst (v := zi 1) hx hb dL_isStep_392 (by decide) ?_
                              refine pz_icmp_lt (tgt := 462) hx hb (by omega) dL_isStep_393 (by decide) (fun c_189 => ?_) (fun c_189 => ?_)
                              · exact absurd c_189 (by omega)
                              · refine lv_iload hx hb dL_isStep_396 (lv_at hl 1 rfl) ?_
                                refine lv_iload hx hb dL_isStep_398 (lv_at hl 2 rfl) ?_
                                refine lv_iload hx hb dL_isStep_400 (lv_at hl 3 rfl) ?_
                                refine pz_isub hx hb dL_isStep_402 ?_
                                refine lv_iconst (v := zi 1) hx hb dL_isStep_403 (by decide) ?_
                                refine pz_iadd hx hb dL_isStep_404 ?_
                                refine pz_icmp_gt (tgt := 462) hx hb (by omega) dL_isStep_405 (by decide) (fun c_190 => ?_) (fun c_190 => ?_)
                                · exact absurd c_190 (by omega)
                                · refine lv_iload hx hb dL_isStep_408 (lv_at hl 0 rfl) ?_
                                  refine lv_iload hx hb dL_isStep_410 (lv_at hl 2 rfl) ?_
                                  refine lv_iload hx hb dL_isStep_412 (lv_at hl 3 rfl) ?_
                                  refine pz_isub hx hb dL_isStep_414 ?_
                                  refine lv_iconst (v := zi 1) hx hb dL_isStep_415 (by decide) ?_
                                  refine pz_iadd hx hb dL_isStep_416 ?_
                                  refine pz_icmp_gt (tgt := 462) hx hb (by omega) dL_isStep_417 (by decide) (fun c_191 => ?_) (fun c_191 => ?_)
                                  · exact absurd c_191 (by omega)
                                  · refine lv_aload_n hx hb dL_isStep_420 rfl (lv_at hl 12 rfl) ?_
                                    refine lv_iload_n hx hb dL_isStep_421 rfl (lv_at hl 13 rfl) ?_
                                    refine lv_iload_n hx hb dL_isStep_422 rfl (lv_at hl 14 rfl) ?_
                                    refine lv_bipush (v := zi 7) hx hb dL_isStep_423 (by decide) ?_
                                    have hPc := hP.part (cx := []) [] rfl
                                    have hDc := hD.part (cx := []) [] (by decide) rfl
                                    have hFc := va_freeP (cx := []) hD hS hA [] rfl
                                    refine va_calli (va_runV (As := [.int (zi i), .int (zi y), .int (zi 7)]) (rest := []) ⟨hx, hb, hml, hown, hts⟩ (c_X7_at l dC dI cI cZ cM cT H.size hh ms gv tn tb κ1_186 i am aw av ax T kk ka kb y 7 (by first | assumption | omega | rfl) hz_187 (by first | assumption | omega | rfl) hμ (by first | assumption | omega | rfl) (by first | assumption | omega | rfl)) (cwV 3 hts (goodIn_of _ (by decide +kernel)) rfl rfl rfl (by decide +kernel) ⟨Nat.le_of_ble_eq_true rfl, Nat.le_of_ble_eq_true rfl⟩) ⟨fun a U g mk q => by obtain ⟨q0, q1, qP, qK, qD⟩ := q; exact ⟨q0, q1, qP, va_K.moved (u := U) (U := U.calling g mk a) (Vm.Alike.refl U.vm) qK, qD⟩, va_recv hK hPc (ci := 6) (q0 := 0) rfl rfl, fun U hU hW => ⟨rfl, by rw [hU], by rw [hU]; exact hPc, va_K.moved hW.alike hK, hDc.weaken (fun _ _ _ _ => trivial)⟩⟩ rfl rfl hl.1 rfl (lv_room (Nat.le_of_ble_eq_true rfl)) dL_isStep_425 ⟨Nat.le_of_ble_eq_true rfl, Nat.le_of_ble_eq_true rfl⟩) hS (fun q _ h => hFc q h) hFc (fun r_192 u t H1 locs ht hvm hw hB hz1 hk1 hS => ?_)
                                    obtain ⟨κ1_193, hz_194, hP1, hK1, hD1⟩ := hB
                                    rw [ht] at hP1
                                    obtain ⟨hP, hD⟩ := va_joinP (wr := []) (rx := []) (pl1 := (pq_WD cI cZ cM cT hh ms gv tn tb κ1_193)) hP hD [] [] rfl rfl (by decide) (by decide) hk1 hFc hP1 hD1
                                    generalize H1 = H at hP hS ⊢
                                    have hP : va_P (dC, dI) vwCl ([] ++ (pq_WD cI cZ cM cT hh ms gv tn tb κ1_193)) H := hP
                                    have hD : va_D A ([] ++ (pq_WD cI cZ cM cT hh ms gv tn tb κ1_193)) := hD
                                    refine W.widen (k := 0) (n := 0) (Nat.le_of_ble_eq_true rfl) (Nat.le_of_ble_eq_true rfl) ?_
                                    obtain rfl : r_192 = zi (pq_av (pq_r T y.toNat) (7 : Int)) := hw
                                    refine pz_top (y := zi (pq_eig (pq_r T y.toNat))) (congrArg zi (rfl)) ?_
                                    refine lv_bipush (v := zi 8) hx hb dL_isStep_428 (by decide) ?_
                                    refine lv_iload hx hb dL_isStep_430 (lv_at hl 0 rfl) ?_
                                    refine pz_imul hx hb dL_isStep_432 ?_
                                    refine lv_iload hx hb dL_isStep_433 (lv_at hl 2 rfl) ?_
                                    refine lv_iload hx hb dL_isStep_435 (lv_at hl 3 rfl) ?_
                                    refine pz_isub hx hb dL_isStep_437 ?_
                                    refine lv_iconst (v := zi 1) hx hb dL_isStep_438 (by decide) ?_
                                    refine pz_iadd hx hb dL_isStep_439 ?_
                                    refine pz_idiv hx hb (by omega) dL_isStep_440 ?_
                                    refine pz_icmp_ne (tgt := 462) hx hb (by omega) dL_isStep_441 (by decide) (fun c_195 => ?_) (fun c_195 => ?_)
                                    · exact (c_195 (by omega)).elim
                                    · refine lv_iload hx hb dL_isStep_444 (lv_at hl 3 rfl) ?_
                                      refine lv_iload hx hb dL_isStep_446 (lv_at hl 9 rfl) ?_
                                      refine pz_icmp_gt (tgt := 462) hx hb (by omega) dL_isStep_448 (by decide) (fun c_196 => ?_) (fun c_196 => ?_)
                                      · exact absurd c_196 (by omega)
                                      · refine lv_iload hx hb dL_isStep_451 (lv_at hl 9 rfl) ?_
                                        refine lv_iload hx hb dL_isStep_453 (lv_at hl 2 rfl) ?_
                                        refine pz_icmp_gt (tgt := 462) hx hb (by omega) dL_isStep_455 (by decide) (fun c_197 => ?_) (fun c_197 => ?_)
                                        · exact absurd c_197 (by omega)
                                        · refine lv_iconst (v := zi 1) hx hb dL_isStep_458 (by decide) ?_
                                          refine lv_goto (tgt := 463) hx hb dL_isStep_459 (by decide) ?_
                                          refine W.widen (k := 0) (n := 0) (Nat.le_of_ble_eq_true rfl) (Nat.le_of_ble_eq_true rfl) ?_
                                          exact W.zret (v := (zi 1)) hx hb hr (pz_nar (by first | omega | exact pb_or _)) (fun t ht hW => ⟨⟨(zi 1), (), rfl, rfl, ⟨κ1_193, hz_194, by rw [ht]; exact hP, va_K.moved hW.alike hK, hD⟩⟩, hS.F ht⟩) hS.2.2 dL_isStep_463
                        · refine lv_iload hx hb dL_isStep_278 (lv_at hl 11 rfl) ?_
                          refine lv_iload hx hb dL_isStep_280 (lv_at hl 5 rfl) ?_
                          refine pz_icmp_eq (tgt := 308) hx hb (by omega) dL_isStep_282 (by decide) (fun c_198 => ?_) (fun c_198 => ?_)
                          · refine pz_iinc (lv' := [(11, .int (zi (j + 1))), (10, .int (zi 1)), (9, .int (zi (pq_w T (pq_c (pq_r T y.toNat))))), (8, .int (zi 1)), (7, .int (zi (pq_t (pq_r T y.toNat) (pq_p (pq_r T y.toNat))))), (6, .int (zi (pq_p (pq_r T (y + 1).toNat)))), (5, .int (zi (pq_p (pq_r T y.toNat)))), (4, .int (zi (pq_q (pq_r T y.toNat)))), (3, .int (zi (pq_d (pq_r T y.toNat)))), (0, .ref hh), (1, .int (zi i)), (2, .int (zi y))]) hx hb dL_isStep_308 hl (k := 11) rfl (by decide) rfl (fun ls hl => ?_)
                            refine lv_goto (tgt := 271) hx hb dL_isStep_311 (by decide) ?_
                            exact ih_271 _ _ _ _ ⟨j + 1, κ2, rfl, (by first | assumption | omega | rfl), hκ2, hP, hD, hS, lv_sub hl [1, 2, 3, 4, 5, 6, 7, 8, 9, 10, 11, 0] rfl⟩ (by omega)
                          · refine lv_aload_n hx hb dL_isStep_285 rfl (lv_at hl 8 rfl) ?_
                            refine lv_iload_n hx hb dL_isStep_286 rfl (lv_at hl 9 rfl) ?_
                            refine lv_iload_n hx hb dL_isStep_287 rfl (lv_at hl 10 rfl) ?_
                            refine lv_iload hx hb dL_isStep_288 (lv_at hl 11 rfl) ?_
                            have hPc := hP.part (cx := []) [] rfl
                            have hDc := hD.part (cx := []) [] (by decide) rfl
                            have hFc := va_freeP (cx := []) hD hS hA [] rfl
                            refine va_calli (va_runV (As := [.int (zi i), .int (zi y), .int (zi j)]) (rest := []) ⟨hx, hb, hml, hown, hts⟩ (c_X7_symbol l dC dI cI cZ cM cT H.size hh ms gv tn tb κ2 i am aw av ax T kk ka kb y j (by first | assumption | omega | rfl) hκ2 (by first | assumption | omega | rfl) hμ (by first | assumption | omega | rfl) (by first | assumption | omega | rfl)) (cwV 3 hts (goodIn_of _ (by decide +kernel)) rfl rfl rfl (by decide +kernel) ⟨Nat.le_of_ble_eq_true rfl, Nat.le_of_ble_eq_true rfl⟩) ⟨fun a U g mk q => by obtain ⟨q0, q1, qP, qK, qD⟩ := q; exact ⟨q0, q1, qP, va_K.moved (u := U) (U := U.calling g mk a) (Vm.Alike.refl U.vm) qK, qD⟩, va_recv hK hPc (ci := 6) (q0 := 0) rfl rfl, fun U hU hW => ⟨rfl, by rw [hU], by rw [hU]; exact hPc, va_K.moved hW.alike hK, hDc.weaken (fun _ _ _ _ => trivial)⟩⟩ rfl rfl hl.1 rfl (lv_room (Nat.le_of_ble_eq_true rfl)) dL_isStep_290 ⟨Nat.le_of_ble_eq_true rfl, Nat.le_of_ble_eq_true rfl⟩) hS (fun q _ h => hFc q h) hFc (fun r_199 u t H1 locs ht hvm hw hB hz1 hk1 hS => ?_)
                            obtain ⟨κ1_200, hz_201, hP1, hK1, hD1⟩ := hB
                            rw [ht] at hP1
                            obtain ⟨hP, hD⟩ := va_joinP (wr := []) (rx := []) (pl1 := (pq_WD cI cZ cM cT hh ms gv tn tb κ1_200)) hP hD [] [] rfl rfl (by decide) (by decide) hk1 hFc hP1 hD1
                            generalize H1 = H at hP hS ⊢
                            have hP : va_P (dC, dI) vwCl ([] ++ (pq_WD cI cZ cM cT hh ms gv tn tb κ1_200)) H := hP
                            have hD : va_D A ([] ++ (pq_WD cI cZ cM cT hh ms gv tn tb κ1_200)) := hD
                            refine W.widen (k := 0) (n := 0) (Nat.le_of_ble_eq_true rfl) (Nat.le_of_ble_eq_true rfl) ?_
                            obtain rfl : r_199 = zi (pq_t (pq_r T y.toNat) j) := hw
                            refine pz_top (y := zi (pq_t (pq_r T y.toNat) j)) (congrArg zi (rfl)) ?_
                            refine lv_aload_n hx hb dL_isStep_293 rfl (lv_at hl 8 rfl) ?_
                            refine lv_iload_n hx hb dL_isStep_294 rfl (lv_at hl 9 rfl) ?_
                            refine lv_iload_n hx hb dL_isStep_295 rfl (lv_at hl 10 rfl) ?_
                            refine lv_iconst (v := zi 1) hx hb dL_isStep_296 (by decide) ?_
                            refine pz_iadd hx hb dL_isStep_297 ?_
                            refine lv_iload hx hb dL_isStep_298 (lv_at hl 11 rfl) ?_
                            have hPc := hP.part (cx := []) [] rfl
                            have hDc := hD.part (cx := []) [] (by decide) rfl
                            have hFc := va_freeP (cx := []) hD hS hA [] rfl
                            refine va_calli (va_runV (As := [.int (zi i), .int (zi (y + 1)), .int (zi j)]) (rest := [.int (zi (pq_t (pq_r T y.toNat) j))]) ⟨hx, hb, hml, hown, hts⟩ (c_X7_symbol l dC dI cI cZ cM cT H.size hh ms gv tn tb κ1_200 i am aw av ax T kk ka kb (y + 1) j (by first | assumption | omega | rfl) hz_201 (by first | assumption | omega | rfl) hμ (by first | assumption | omega | rfl) (by first | assumption | omega | rfl)) (cwV 3 hts (goodIn_of _ (by decide +kernel)) rfl rfl rfl (by decide +kernel) ⟨Nat.le_of_ble_eq_true rfl, Nat.le_of_ble_eq_true rfl⟩) ⟨fun a U g mk q => by obtain ⟨q0, q1, qP, qK, qD⟩ := q; exact ⟨q0, q1, qP, va_K.moved (u := U) (U := U.calling g mk a) (Vm.Alike.refl U.vm) qK, qD⟩, va_recv hK hPc (ci := 6) (q0 := 0) rfl rfl, fun U hU hW => ⟨rfl, by rw [hU], by rw [hU]; exact hPc, va_K.moved hW.alike hK, hDc.weaken (fun _ _ _ _ => trivial)⟩⟩ rfl rfl hl.1 rfl (lv_room (Nat.le_of_ble_eq_true rfl)) dL_isStep_300 ⟨Nat.le_of_ble_eq_true rfl, Nat.le_of_ble_eq_true rfl⟩) hS (fun q _ h => hFc q h) hFc (fun r_202 u t H1 locs ht hvm hw hB hz1 hk1 hS => ?_)
                            obtain ⟨κ1_203, hz_204, hP1, hK1, hD1⟩ := hB
                            rw [ht] at hP1
                            obtain ⟨hP, hD⟩ := va_joinP (wr := []) (rx := []) (pl1 := (pq_WD cI cZ cM cT hh ms gv tn tb κ1_203)) hP hD [] [] rfl rfl (by decide) (by decide) hk1 hFc hP1 hD1
                            generalize H1 = H at hP hS ⊢
                            have hP : va_P (dC, dI) vwCl ([] ++ (pq_WD cI cZ cM cT hh ms gv tn tb κ1_203)) H := hP
                            have hD : va_D A ([] ++ (pq_WD cI cZ cM cT hh ms gv tn tb κ1_203)) := hD
                            refine W.widen (k := 0) (n := 0) (Nat.le_of_ble_eq_true rfl) (Nat.le_of_ble_eq_true rfl) ?_
                            obtain rfl : r_202 = zi (pq_t (pq_r T (y + 1).toNat) j) := hw
                            refine pz_top (y := zi (pq_t (pq_r T y.toNat) j)) (congrArg zi ((by rw [hgo, pq_t_go]; exact pq_up_ne _ _ c_198))) ?_
                            refine pz_icmp_eq (tgt := 308) hx hb (by have h1 := hwf.2.1 j; omega) dL_isStep_303 (by decide) (fun c_205 => ?_) (fun c_205 => ?_)
                            · refine pz_iinc (lv' := [(11, .int (zi (j + 1))), (10, .int (zi 1)), (9, .int (zi (pq_w T (pq_c (pq_r T y.toNat))))), (8, .int (zi 1)), (7, .int (zi (pq_t (pq_r T y.toNat) (pq_p (pq_r T y.toNat))))), (6, .int (zi (pq_p (pq_r T (y + 1).toNat)))), (5, .int (zi (pq_p (pq_r T y.toNat)))), (4, .int (zi (pq_q (pq_r T y.toNat)))), (3, .int (zi (pq_d (pq_r T y.toNat)))), (0, .ref hh), (1, .int (zi i)), (2, .int (zi y))]) hx hb dL_isStep_308 hl (k := 11) rfl (by decide) rfl (fun ls hl => ?_)
                              refine lv_goto (tgt := 271) hx hb dL_isStep_311 (by decide) ?_
                              exact ih_271 _ _ _ _ ⟨j + 1, κ1_203, rfl, (by first | assumption | omega | rfl), hz_204, hP, hD, hS, lv_sub hl [1, 2, 3, 4, 5, 6, 7, 8, 9, 10, 11, 0] rfl⟩ (by omega)
                            · exact (c_205 (by omega)).elim
                      · exact (c_167 (by omega)).elim
            · exact absurd c_84 (by omega)
          · exact (c_83 (by omega)).elim
