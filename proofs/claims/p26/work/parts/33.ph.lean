/-! p26: the law's small methods -/
def zX (A : Nat → Prop) (b L : Nat) (xs : Nat → Int32) (U : State) (H : Heap) : Prop := va_X b L xs U H ∧ ¬ A b ∧ b < H.size
theorem zX.kept {A : Nat → Prop} {b L : Nat} {xs : Nat → Int32} {U : State} {H H1 : Heap} (h : zX A b L xs U H) (hs : H.size ≤ H1.size) (hq : ∀ a : Nat, a < H.size → ¬ A a → H1[a]? = H[a]?) : zX A b L xs U H1 := ⟨h.1.kept (hq b h.2.2 h.2.1), h.2.1, Nat.lt_of_lt_of_le h.2.2 hs⟩
theorem zX.narrow {A B : Nat → Prop} {b L : Nat} {xs : Nat → Int32} {U : State} {H : Heap} (h : zX A b L xs U H) (hAB : ∀ q, B q → A q) : zX B b L xs U H := ⟨h.1, fun q => h.2.1 (hAB b q), h.2.2⟩
theorem zX.warm {A : Nat → Prop} {b L : Nat} {xs : Nat → Int32} {s U : State} {H : Heap} (hW : s.WarmedH U.vm) (h : zX A b L xs s H) : zX A b L xs U H := ⟨h.1.moved hW.alike, h.2⟩
theorem zX.call {A : Nat → Prop} {b L : Nat} {xs : Nat → Int32} {U : State} {H : Heap} {g : JFrame} {mk : MethodId} {a : Array Value} (h : zX A b L xs U H) : zX A b L xs (U.calling g mk a) H := ⟨h.1.moved (Vm.Alike.refl U.vm), h.2⟩
theorem pz_mask (x : Int32) : ∃ z : Int, (0 ≤ z ∧ z ≤ 2147483647) ∧ x &&& zi 2147483647 = zi z := by
  obtain ⟨j, hj, e⟩ := pk_andE x (m := zi 2147483647) 31 (by decide)
  refine ⟨(j : Int), by omega, e.trans ?_⟩
  show Int32.ofNat j = Int32.ofInt (j : Int)
  exact Int32.ofInt_eq_ofNat.symm
theorem pz_len (L : Nat) : Int32.ofNat L = zi (L : Int) := Int32.ofInt_eq_ofNat.symm
/-- the cells of a machine that are told in order: the later ones are still empty -/
theorem pq_fl_E {T : pq_T} {c : Nat} {w v x : Int} {j : Nat} (h : ∀ k : Nat, k < 8 → c ≤ k → pq_w T k = -1) (hj : c < j) : ∀ k : Nat, k < 8 → j ≤ k → pq_w (pq_fl T c w v x) k = -1 := fun k hk h2 => by
  show (if k = c then w else pq_w T k) = -1
  rw [if_neg (by omega)]
  exact h k hk (by omega)
def zs_c_L_below : List Cond := .code yL_below cL_below 2 (some .int) :: (([.constant RL 7 (2147483647)] : List Cond))
set_option maxHeartbeats 4000000 in
set_option maxRecDepth 100000 in
theorem c_L_below (l : Launch) (dC : Nat → ClassId) (dI : Nat → Nat → Nat) (cI cZ cM cT : ClassId) (sz : Nat) (v9 : Int32) (n9 : Int) (hn9 : 1 ≤ n9 ∧ n9 ≤ 100000) : Met l yL_below zs_c_L_below ({ frames := 0, cells := 0, slots := 0, locals := 0 }) (va_Pc [.int v9, .int (zi n9)] (fun U => U.heap.size = sz ∧ va_P (dC, dI) vwCl [] U.heap ∧ va_K (dC, dI) vwCl (zT4 cI cZ cM cT) U ∧ va_D (fun _ => True) [])) (va_Qi (fun (r : Int32) (_ : Unit) => ∃ q : Int, r = zi q ∧ (0 ≤ q ∧ q < n9)) (fun _ t => va_P (dC, dI) vwCl [] t.heap ∧ va_K (dC, dI) vwCl (zT4 cI cZ cM cT) t ∧ va_D (va_A [] sz) []) (va_A [] sz)) 0 0 (va_A [] sz) := by
  refine Met.ofW (cc := cL_below) (maxL := 2) (ret := (some .int)) (by decide) rfl ?_
  intro p e s m args below meth c s₁ B hml hv
  obtain ⟨rfl, hsz, hP, hK, hD0⟩ := hv
  have hx := B.exec
  have hb := B.bytes
  have hr := B.returns
  have hts := atoms_spec (ws := zs_c_L_below) B.pre
  have hown : s.vm.findClass RL = some m.cls := findClass_of_methodNamed B.named
  have hlocks := B.notSynchronized
  subst hsz
  have hD := hD0.self (sz := s.heap.size)
  generalize hAe : va_A [] s.heap.size = A at hD ⊢
  have hA : ∀ q : Nat, s.heap.size ≤ q → A q := fun q h => by rw [← hAe]; exact Or.inr h
  have hS : va_S A s.heap s.heap [] := va_S.rf
  have hl := lv_entry ([.int v9, .int (zi n9)]) (n := 2) (Nat.le_of_ble_eq_true rfl)
  rw [lg_entry_eq]
  generalize (lg_sl ([.int v9, .int (zi n9)]) ++ List.replicate (2 - (lg_sl ([.int v9, .int (zi n9)])).length) Slot.unset).toArray = ls at hl ⊢
  have hl : lv_has ls 2 [(0, .int v9), (1, .int (zi n9))] := hl
  obtain ⟨z9, hz9, ez9⟩ := pz_mask v9
  refine lv_iload_n hx hb dL_below_0 rfl (lv_at hl 0 rfl) ?_
  refine lv_ldc (v := 2147483647) hx hb hown (hts (.constant RL 7 (2147483647)) (by decide +kernel)) dL_below_1 ?_
  refine pz_top (y := zi 2147483647) (by decide) ?_
  refine lv_iand hx hb dL_below_3 ?_
  refine pz_top (y := (zi z9)) (ez9) ?_
  refine lv_iload_n hx hb dL_below_4 rfl (lv_at hl 1 rfl) ?_
  refine pz_irem hx hb (by omega) dL_below_5 ?_
  refine W.widen (k := 0) (n := 0) (Nat.le_of_ble_eq_true rfl) (Nat.le_of_ble_eq_true rfl) ?_
  exact W.iret (v := (zi (z9 % n9))) hx hb hr (fun t ht hW => ⟨⟨(zi (z9 % n9)), (), rfl, ⟨_, rfl, Int.emod_nonneg _ (by omega), Int.emod_lt_of_pos _ (by omega)⟩, ⟨by rw [ht]; exact hP, va_K.moved hW.alike hK, hD⟩⟩, hS.F ht⟩) hS.2.2 dL_below_6

def zs_c_L_cell : List Cond := .code yL_cell cL_cell 2 (some .int) :: (([.constant RL 8 (790386105)] : List Cond))
set_option maxHeartbeats 4000000 in
set_option maxRecDepth 100000 in
theorem c_L_cell (l : Launch) (dC : Nat → ClassId) (dI : Nat → Nat → Nat) (cI cZ cM cT : ClassId) (sz : Nat) (b0 : Nat) (L9 : Nat) (xs : Nat → Int32) (k9 : Int) (hk9 : 0 ≤ k9 ∧ k9 ≤ 1000) (hL9 : L9 ≤ 260) : Met l yL_cell zs_c_L_cell ({ frames := 0, cells := 0, slots := 0, locals := 0 }) (va_Pc [.ref b0, .int (zi k9)] (fun U => U.heap.size = sz ∧ va_P (dC, dI) vwCl [] U.heap ∧ va_K (dC, dI) vwCl (zT4 cI cZ cM cT) U ∧ va_D (fun _ => True) [] ∧ zX (va_A [] sz) b0 L9 xs U U.heap)) (va_Qi (fun (r : Int32) (_ : Unit) => True) (fun _ t => va_P (dC, dI) vwCl [] t.heap ∧ va_K (dC, dI) vwCl (zT4 cI cZ cM cT) t ∧ va_D (va_A [] sz) []) (va_A [] sz)) 0 0 (va_A [] sz) := by
  refine Met.ofW (cc := cL_cell) (maxL := 2) (ret := (some .int)) (by decide) rfl ?_
  intro p e s m args below meth c s₁ B hml hv
  obtain ⟨rfl, hsz, hP, hK, hD0, hX⟩ := hv
  have hx := B.exec
  have hb := B.bytes
  have hr := B.returns
  have hts := atoms_spec (ws := zs_c_L_cell) B.pre
  have hown : s.vm.findClass RL = some m.cls := findClass_of_methodNamed B.named
  have hlocks := B.notSynchronized
  subst hsz
  have hD := hD0.self (sz := s.heap.size)
  generalize hAe : va_A [] s.heap.size = A at hD hX ⊢
  have hA : ∀ q : Nat, s.heap.size ≤ q → A q := fun q h => by rw [← hAe]; exact Or.inr h
  have hS : va_S A s.heap s.heap [] := va_S.rf
  have hl := lv_entry ([.ref b0, .int (zi k9)]) (n := 2) (Nat.le_of_ble_eq_true rfl)
  rw [lg_entry_eq]
  generalize (lg_sl ([.ref b0, .int (zi k9)]) ++ List.replicate (2 - (lg_sl ([.ref b0, .int (zi k9)])).length) Slot.unset).toArray = ls at hl ⊢
  have hl : lv_has ls 2 [(0, .ref b0), (1, .int (zi k9))] := hl
  refine lv_iload_n hx hb dL_cell_0 rfl (lv_at hl 1 rfl) ?_
  refine lv_aload_n hx hb dL_cell_1 rfl (lv_at hl 0 rfl) ?_
  refine va_slen hx hb hX.1 hX.2.2 hX.2.1 hS dL_cell_2 ?_
  refine pz_top (y := zi (L9 : Int)) (pz_len L9) ?_
  refine pz_icmp_ge (tgt := 12) hx hb (by omega) dL_cell_3 (by decide) (fun c_1 => ?_) (fun c_1 => ?_)
  · refine lv_ldc (v := 790386105) hx hb hown (hts (.constant RL 8 (790386105)) (by decide +kernel)) dL_cell_12 ?_
    refine pz_top (y := zi 790386105) (by decide) ?_
    refine lv_iload_n hx hb dL_cell_14 rfl (lv_at hl 1 rfl) ?_
    refine lv_iconst (v := zi 3) hx hb dL_cell_15 (by decide) ?_
    refine pz_iadd hx hb dL_cell_16 ?_
    refine pz_imul hx hb dL_cell_17 ?_
    refine W.widen (k := 0) (n := 0) (Nat.le_of_ble_eq_true rfl) (Nat.le_of_ble_eq_true rfl) ?_
    exact W.iret (v := (zi (790386105 * (k9 + 3)))) hx hb hr (fun t ht hW => ⟨⟨(zi (790386105 * (k9 + 3))), (), rfl, trivial, ⟨by rw [ht]; exact hP, va_K.moved hW.alike hK, hD⟩⟩, hS.F ht⟩) hS.2.2 dL_cell_18
  · refine lv_aload_n hx hb dL_cell_6 rfl (lv_at hl 0 rfl) ?_
    refine lv_iload_n hx hb dL_cell_7 rfl (lv_at hl 1 rfl) ?_
    refine va_sld hx hb hX.1 hX.2.2 hX.2.1 hS (zi_in (n := L9) (by omega) (by omega) (by omega)) dL_cell_8 ?_
    refine lv_goto (tgt := 18) hx hb dL_cell_9 (by decide) ?_
    refine W.widen (k := 0) (n := 0) (Nat.le_of_ble_eq_true rfl) (Nat.le_of_ble_eq_true rfl) ?_
    exact W.iret (v := (xs (zi k9).toNatClampNeg)) hx hb hr (fun t ht hW => ⟨⟨(xs (zi k9).toNatClampNeg), (), rfl, trivial, ⟨by rw [ht]; exact hP, va_K.moved hW.alike hK, hD⟩⟩, hS.F ht⟩) hS.2.2 dL_cell_18

def zs_c_L_prove : List Cond := .codeWith yL_prove cL_prove 6 (some .int) [(0, 17, 18, 77)] :: (([.code yX7_prove cX7_prove 6 (some .boolean), .code yX7_find cX7_find 3 (some (.object "Haltingale$Machine")), .fieldLink RX7 148 "Haltingale" "machineCount" "I", .fieldLink RX7 11 "Haltingale" "machines" "[LHaltingale$Machine;", .methodLink RX7 67 yX7_find, .instanceMethod yX7_find, .initialized RX7, .selects RX7 yX7_find yX7_find, .code yX7_isCertificate cX7_isCertificate 3 (some .boolean), .code yX7_isWithin cX7_isWithin 3 (some .boolean), .methodLink RX7 49 yX7_isWithin, .static yX7_isWithin, .methodLink RX7 130 yX7_isCertificate, .static yX7_isCertificate, .code yX7_require cX7_require 1 none, .methodLink RX7 53 yX7_require, .static yX7_require, .code yX7_requireOpen cX7_requireOpen 1 none, .fieldLink RX7 151 "Haltingale$Machine" "kind" "I", .methodLink RX7 133 yX7_requireOpen, .static yX7_requireOpen, .fieldLink RX7 136 "Haltingale" "givenCount" "I", .code yX7_isTaken cX7_isTaken 5 (some .boolean), .fieldLink RX7 24 "Haltingale" "walk" "LHaltingale$Walk;", .code yX6_run cX6_run 4 none, .code yX6_begin cX6_begin 2 none, .fieldLink RX6 15 "Haltingale$Walk" "least" "I", .fieldLink RX6 19 "Haltingale$Walk" "greatest" "I", .fieldLink RX6 26 "Haltingale$Walk" "done" "I", .fieldLink RX6 29 "Haltingale$Walk" "state" "I", .fieldLink RX6 32 "Haltingale$Walk" "place" "I", .code yX6_put cX6_put 3 none, .fieldLink RX6 9 "Haltingale$Walk" "tape" "[I", .methodLink RX6 22 yX6_put, .instanceMethod yX6_put, .initialized RX6, .selects RX6 yX6_put yX6_put, .methodLink RX6 35 yX6_begin, .instanceMethod yX6_begin, .selects RX6 yX6_begin yX6_begin, .code yX6_step cX6_step 3 (some .boolean), .code yX6_read cX6_read 2 (some .int), .methodLink RX6 42 yX6_read, .instanceMethod yX6_read, .selects RX6 yX6_read yX6_read, .code yX6_hasStopped cX6_hasStopped 2 (some .boolean), .fieldLink RX6 73 "Haltingale$Machine" "states" "I", .methodLink RX6 46 yX6_hasStopped, .instanceMethod yX6_hasStopped, .selects RX6 yX6_hasStopped yX6_hasStopped, .code yX3_isEmpty cX3_isEmpty 2 (some .boolean), .fieldLink RX3 15 "Haltingale$Machine" "writes" "[I", .methodLink RX6 49 yX3_isEmpty, .instanceMethod yX3_isEmpty, .initialized RX3, .selects RX3 yX3_isEmpty yX3_isEmpty, .code yX3_writeOf cX3_writeOf 2 (some .int), .methodLink RX6 55 yX3_writeOf, .instanceMethod yX3_writeOf, .selects RX3 yX3_writeOf yX3_writeOf, .code yX3_moveOf cX3_moveOf 2 (some .int), .fieldLink RX3 19 "Haltingale$Machine" "moves" "[I", .methodLink RX6 58 yX3_moveOf, .instanceMethod yX3_moveOf, .selects RX3 yX3_moveOf yX3_moveOf, .code yX3_nextOf cX3_nextOf 2 (some .int), .fieldLink RX3 22 "Haltingale$Machine" "nexts" "[I", .methodLink RX6 61 yX3_nextOf, .instanceMethod yX3_nextOf, .selects RX3 yX3_nextOf yX3_nextOf, .methodLink RX6 64 Lib.Math.min.name, .static Lib.Math.min.name, .initialized "java/lang/Math", .code Lib.Math.min.name Lib.Math.min.code 2 (some .int), .methodLink RX6 70 Lib.Math.max.name, .static Lib.Math.max.name, .code Lib.Math.max.name Lib.Math.max.code 2 (some .int), .methodLink RX6 38 yX6_step, .instanceMethod yX6_step, .selects RX6 yX6_step yX6_step, .methodLink RX7 154 yX6_run, .instanceMethod yX6_run, .selects RX6 yX6_run yX6_run, .fieldLink RX7 161 "Haltingale$Walk" "done" "I", .methodLink RX7 158 yX6_hasStopped, .fieldLink RX7 31 "Haltingale" "cycles" "LHaltingale$Cycles;", .code yX1_isCycle cX1_isCycle 5 (some .boolean), .code yX1_standBehind cX1_standBehind 3 (some .boolean), .fieldLink RX1 12 "Haltingale$Cycles" "early" "LHaltingale$Walk;", .methodLink RX1 33 yX6_run, .fieldLink RX1 18 "Haltingale$Cycles" "late" "LHaltingale$Walk;", .fieldLink RX1 37 "Haltingale$Walk" "place" "I", .fieldLink RX1 41 "Haltingale$Cycles" "least" "I", .fieldLink RX1 44 "Haltingale$Cycles" "greatest" "I", .fieldLink RX1 47 "Haltingale$Walk" "done" "I", .methodLink RX1 21 yX1_standBehind, .instanceMethod yX1_standBehind, .initialized RX1, .selects RX1 yX1_standBehind yX1_standBehind, .code yX1_repeats cX1_repeats 5 (some .boolean), .fieldLink RX1 62 "Haltingale$Walk" "state" "I", .fieldLink RX1 65 "Haltingale$Walk" "least" "I", .fieldLink RX1 66 "Haltingale$Walk" "greatest" "I", .methodLink RX1 67 yX6_read, .methodLink RX1 29 yX1_repeats, .instanceMethod yX1_repeats, .selects RX1 yX1_repeats yX1_repeats, .code yX1_goFurther cX1_goFurther 2 (some .boolean), .methodLink RX1 50 yX6_step, .methodLink RX1 53 Lib.Math.min.name, .methodLink RX1 59 Lib.Math.max.name, .methodLink RX1 25 yX1_goFurther, .instanceMethod yX1_goFurther, .selects RX1 yX1_goFurther yX1_goFurther, .methodLink RX7 310 yX1_isCycle, .instanceMethod yX1_isCycle, .selects RX1 yX1_isCycle yX1_isCycle, .code yX7_isBack cX7_isBack 4 (some .boolean), .fieldLink RX7 38 "Haltingale" "back" "LHaltingale$Back;", .code yX0_emptyDepth cX0_emptyDepth 3 (some .int), .code yX0_takeEnds cX0_takeEnds 3 none, .fieldLink RX0 12 "Haltingale$Back" "rows" "LHaltingale$Rows;", .fieldLink RX0 29 "Haltingale$Rows" "count" "I", .code yX3_countCells cX3_countCells 1 (some .int), .fieldLink RX3 9 "Haltingale$Machine" "states" "I", .methodLink RX0 33 yX3_countCells, .instanceMethod yX3_countCells, .selects RX3 yX3_countCells yX3_countCells, .code yX3_isEnd cX3_isEnd 2 (some .boolean), .methodLink RX3 34 yX3_isEmpty, .methodLink RX3 38 yX3_nextOf, .methodLink RX0 39 yX3_isEnd, .instanceMethod yX3_isEnd, .selects RX3 yX3_isEnd yX3_isEnd, .code yX4_add cX4_add 6 (some .boolean), .fieldLink RX4 24 "Haltingale$Rows" "count" "I", .code yX4_bitOf cX4_bitOf 1 (some .int), .methodLink RX4 28 yX4_bitOf, .static yX4_bitOf, .initialized RX4, .fieldLink RX4 9 "Haltingale$Rows" "states" "[I", .fieldLink RX4 15 "Haltingale$Rows" "places" "[I", .fieldLink RX4 18 "Haltingale$Rows" "known" "[I", .fieldLink RX4 21 "Haltingale$Rows" "ones" "[I", .methodLink RX0 43 yX4_add, .instanceMethod yX4_add, .selects RX4 yX4_add yX4_add, .methodLink RX0 21 yX0_takeEnds, .instanceMethod yX0_takeEnds, .initialized RX0, .selects RX0 yX0_takeEnds yX0_takeEnds, .code yX0_goBack cX0_goBack 5 (some .boolean), .fieldLink RX0 18 "Haltingale$Back" "spare" "LHaltingale$Rows;", .code yX0_canLead cX0_canLead 6 (some .boolean), .methodLink RX0 65 yX3_isEmpty, .methodLink RX0 68 yX3_nextOf, .fieldLink RX0 71 "Haltingale$Rows" "states" "[I", .fieldLink RX0 51 "Haltingale$Rows" "places" "[I", .methodLink RX0 55 yX3_moveOf, .methodLink RX0 74 yX4_bitOf, .fieldLink RX0 62 "Haltingale$Rows" "ones" "[I", .fieldLink RX0 59 "Haltingale$Rows" "known" "[I", .methodLink RX0 77 yX3_writeOf, .methodLink RX0 47 yX0_canLead, .instanceMethod yX0_canLead, .selects RX0 yX0_canLead yX0_canLead, .methodLink RX0 25 yX0_goBack, .instanceMethod yX0_goBack, .selects RX0 yX0_goBack yX0_goBack, .methodLink RX7 320 yX0_emptyDepth, .instanceMethod yX0_emptyDepth, .selects RX0 yX0_emptyDepth yX0_emptyDepth, .code yX7_goesOnFor cX7_goesOnFor 3 (some .boolean), .methodLink RX7 323 yX7_goesOnFor, .instanceMethod yX7_goesOnFor, .selects RX7 yX7_goesOnFor yX7_goesOnFor, .methodLink RX7 314 yX7_isBack, .instanceMethod yX7_isBack, .selects RX7 yX7_isBack yX7_isBack, .fieldLink RX7 45 "Haltingale" "gram" "LHaltingale$Gram;", .code yX2_isClosed cX2_isClosed 5 (some .boolean), .code yX2_clear cX2_clear 3 none, .fieldLink RX2 45 "Haltingale$Gram" "width" "I", .fieldLink RX2 38 "Haltingale$Gram" "count" "I", .fieldLink RX2 19 "Haltingale$Gram" "lefts" "[Z", .code yX2_addRow cX2_addRow 3 none, .fieldLink RX2 34 "Haltingale$Gram" "isNew" "Z", .methodLink RX2 48 yX2_addRow, .instanceMethod yX2_addRow, .initialized RX2, .selects RX2 yX2_addRow yX2_addRow, .fieldLink RX2 22 "Haltingale$Gram" "rights" "[Z", .code yX2_addWindow cX2_addWindow 5 none, .fieldLink RX2 9 "Haltingale$Gram" "isFound" "[Z", .fieldLink RX2 15 "Haltingale$Gram" "found" "[I", .methodLink RX2 52 yX2_addWindow, .instanceMethod yX2_addWindow, .selects RX2 yX2_addWindow yX2_addWindow, .methodLink RX2 29 yX2_clear, .instanceMethod yX2_clear, .selects RX2 yX2_clear yX2_clear, .constant RX2 33 (1000000), .code yX2_spread cX2_spread 13 (some .boolean), .methodLink RX2 56 yX3_isEnd, .methodLink RX2 62 yX3_moveOf, .methodLink RX2 66 yX3_nextOf, .methodLink RX2 69 yX3_writeOf, .code yX2_hasRow cX2_hasRow 3 (some .boolean), .methodLink RX2 72 yX2_hasRow, .instanceMethod yX2_hasRow, .selects RX2 yX2_hasRow yX2_hasRow, .methodLink RX2 42 yX2_spread, .instanceMethod yX2_spread, .selects RX2 yX2_spread yX2_spread, .methodLink RX7 317 yX2_isClosed, .instanceMethod yX2_isClosed, .selects RX2 yX2_isClosed yX2_isClosed, .methodLink RX7 139 yX7_isTaken, .instanceMethod yX7_isTaken, .selects RX7 yX7_isTaken yX7_isTaken, .fieldLink RX7 142 "Haltingale" "takenCount" "I", .code yX3_settle cX3_settle 4 none, .fieldLink RX3 25 "Haltingale$Machine" "kind" "I", .fieldLink RX3 28 "Haltingale$Machine" "a" "I", .fieldLink RX3 31 "Haltingale$Machine" "b" "I", .methodLink RX7 145 yX3_settle, .instanceMethod yX3_settle, .selects RX3 yX3_settle yX3_settle, .methodLink RL 74 yX7_prove, .instanceMethod yX7_prove, .selects RX7 yX7_prove yX7_prove] : List Cond) ++ wsX70 ++ wsX30 ++ wsX60 ++ wsX10 ++ wsX00 ++ wsX40 ++ wsX20)
set_option maxHeartbeats 4000000 in
set_option maxRecDepth 100000 in
theorem c_L_prove (l : Launch) (dC : Nat → ClassId) (dI : Nat → Nat → Nat) (cI cZ cM cT : ClassId) (sz : Nat) (hh : Nat) (ms : List pq_M) (gv : Int) (tn : Int) (tb : Int) (κ : pq_S) (i : Int) (am : Nat) (aw : Nat) (av : Nat) (ax : Nat) (T : pq_T) (ka : Int) (kb : Int) (y1 : Int) (y2 : Int) (y3 : Int) (hms : pq_mo ms) (hκ : pq_Sok κ) (hi0 : 0 ≤ i) (hμ : ms[i.toNat]? = some (am, aw, av, ax, T, -1, ka, kb)) (hic0 : pq_ic y1 y2 y3) : Met l yL_prove zs_c_L_prove ({ frames := 7, cells := 0, slots := 0, locals := 164 }) (va_Pc [.ref hh, .int (zi i), .int (zi y1), .int (zi y2), .int (zi y3)] (fun U => U.heap.size = sz ∧ va_P (dC, dI) vwCl ([] ++ (pq_WD cI cZ cM cT hh ms gv tn tb κ)) U.heap ∧ va_K (dC, dI) vwCl (zT4 cI cZ cM cT) U ∧ va_D (fun _ => True) ([] ++ (pq_WD cI cZ cM cT hh ms gv tn tb κ)))) (va_Qi (fun (r : Int32) (_ : Unit) => r = zi (pb (pq_cert T y1 y2 y3))) (fun _ t => ∃ (κ1 : pq_S) (ms1 : List pq_M) (tn1 : Int), (pq_Sok κ1) ∧ ((pq_cert T y1 y2 y3 → ms1 = ms.set i.toNat (am, aw, av, ax, T, y1, y2, y3) ∧ tn1 = tn + 1) ∧ (¬ pq_cert T y1 y2 y3 → ms1 = ms ∧ tn1 = tn)) ∧ va_P (dC, dI) vwCl ([] ++ (pq_WD cI cZ cM cT hh ms1 (gv + 1) tn1 tb κ1)) t.heap ∧ va_K (dC, dI) vwCl (zT4 cI cZ cM cT) t ∧ va_D (va_A ([] ++ (pq_WD cI cZ cM cT hh ms gv tn tb κ)) sz) ([] ++ (pq_WD cI cZ cM cT hh ms1 (gv + 1) tn1 tb κ1))) (va_A ([] ++ (pq_WD cI cZ cM cT hh ms gv tn tb κ)) sz)) 0 0 (va_A ([] ++ (pq_WD cI cZ cM cT hh ms gv tn tb κ)) sz) := by
  refine va_MetW (cc := cL_prove) (maxL := 6) (ret := (some .int)) (hh := [(0, 17, 18, 77)]) (by decide) rfl ?_
  intro p e s m args below meth c s₁ B hml hv
  obtain ⟨rfl, hsz, hP, hK, hD0⟩ := hv
  have hx := B.exec
  have hb := B.bytes
  have hr := B.returns
  have hts := atoms_spec (ws := zs_c_L_prove) B.pre
  have hown : s.vm.findClass RL = some m.cls := findClass_of_methodNamed B.named
  have hlocks := B.notSynchronized
  subst hsz
  have hD := hD0.self (sz := s.heap.size)
  generalize hAe : va_A ([] ++ (pq_WD cI cZ cM cT hh ms gv tn tb κ)) s.heap.size = A at hD ⊢
  have hA : ∀ q : Nat, s.heap.size ≤ q → A q := fun q h => by rw [← hAe]; exact Or.inr h
  have hS : va_S A s.heap s.heap [] := va_S.rf
  have hl := lv_entry ([.ref hh, .int (zi i), .int (zi y1), .int (zi y2), .int (zi y3)]) (n := 6) (Nat.le_of_ble_eq_true rfl)
  rw [lg_entry_eq]
  generalize (lg_sl ([.ref hh, .int (zi i), .int (zi y1), .int (zi y2), .int (zi y3)]) ++ List.replicate (6 - (lg_sl ([.ref hh, .int (zi i), .int (zi y1), .int (zi y2), .int (zi y3)])).length) Slot.unset).toArray = ls at hl ⊢
  have hl : lv_has ls 6 [(0, .ref hh), (1, .int (zi i)), (2, .int (zi y1)), (3, .int (zi y2)), (4, .int (zi y3))] := hl
  refine lv_aload_n hx hb dL_prove_0 rfl (lv_at hl 0 rfl) ?_
  refine lv_iload_n hx hb dL_prove_1 rfl (lv_at hl 1 rfl) ?_
  refine lv_iload_n hx hb dL_prove_2 rfl (lv_at hl 2 rfl) ?_
  refine lv_iload_n hx hb dL_prove_3 rfl (lv_at hl 3 rfl) ?_
  refine lv_iload hx hb dL_prove_4 (lv_at hl 4 rfl) ?_
  have hPc := hP.part (cx := []) [] rfl
  have hDc := hD.part (cx := []) [] (by decide) rfl
  have hFc := va_freeP (cx := []) hD hS hA [] rfl
  refine va_calli (va_runV (As := [.int (zi i), .int (zi y1), .int (zi y2), .int (zi y3)]) (rest := []) ⟨hx, hb, hml, hown, hts⟩ (c_X7_prove l dC dI cI cZ cM cT s.heap.size hh ms gv tn tb κ i am aw av ax T ka kb y1 y2 y3 (by first | assumption | omega | rfl) (by first | assumption | omega | rfl) (by first | assumption | omega | rfl) hμ (by first | assumption | omega | rfl)) (cwV 4 hts (goodIn_of _ (by decide +kernel)) rfl rfl rfl (by decide +kernel) ⟨Nat.le_of_ble_eq_true rfl, Nat.le_of_ble_eq_true rfl⟩) ⟨fun a U g mk q => by obtain ⟨q0, q1, qP, qK, qD⟩ := q; exact ⟨q0, q1, qP, va_K.moved (u := U) (U := U.calling g mk a) (Vm.Alike.refl U.vm) qK, qD⟩, va_recv hK hPc (ci := 6) (q0 := 0) rfl rfl, fun U hU hW => ⟨rfl, by rw [hU], by rw [hU]; exact hPc, va_K.moved hW.alike hK, hDc.weaken (fun _ _ _ _ => trivial)⟩⟩ rfl rfl hl.1 rfl (lv_room (Nat.le_of_ble_eq_true rfl)) dL_prove_6 ⟨Nat.le_of_ble_eq_true rfl, Nat.le_of_ble_eq_true rfl⟩) hS (fun q _ h => hFc q h) hFc (fun r_1 u t H1 locs ht hvm hw hB hz1 hk1 hS => ?_)
  obtain ⟨κ1_2, ms1_3, tn1_4, hz_5, hm_6, hP1, hK1, hD1⟩ := hB
  rw [ht] at hP1
  obtain ⟨hP, hD⟩ := va_joinP (wr := []) (rx := []) (pl1 := (pq_WD cI cZ cM cT hh ms1_3 (gv + 1) tn1_4 tb κ1_2)) hP hD [] [] rfl rfl (by decide) (by decide) hk1 hFc hP1 hD1
  generalize H1 = H at hP hS ⊢
  have hP : va_P (dC, dI) vwCl ([] ++ (pq_WD cI cZ cM cT hh ms1_3 (gv + 1) tn1_4 tb κ1_2)) H := hP
  have hD : va_D A ([] ++ (pq_WD cI cZ cM cT hh ms1_3 (gv + 1) tn1_4 tb κ1_2)) := hD
  refine W.widen (k := 0) (n := 0) (Nat.le_of_ble_eq_true rfl) (Nat.le_of_ble_eq_true rfl) ?_
  obtain rfl : r_1 = zi (pb (pq_cert T y1 y2 y3)) := hw
  refine pz_ifb_eq (tgt := 16) hx hb dL_prove_9 (by decide) (fun c_7 => ?_) (fun c_7 => ?_)
  · refine lv_iconst (v := zi 0) hx hb dL_prove_16 (by decide) ?_
    refine W.widen (k := 0) (n := 0) (Nat.le_of_ble_eq_true rfl) (Nat.le_of_ble_eq_true rfl) ?_
    exact W.iret (v := (zi 0)) hx hb hr (fun t ht hW => ⟨⟨(zi 0), (), rfl, congrArg zi ((pb_f c_7).symm), ⟨κ1_2, ms1_3, tn1_4, hz_5, hm_6, by rw [ht]; exact hP, va_K.moved hW.alike hK, hD⟩⟩, hS.F ht⟩) hS.2.2 dL_prove_17
  · refine lv_iconst (v := zi 1) hx hb dL_prove_12 (by decide) ?_
    refine lv_goto (tgt := 17) hx hb dL_prove_13 (by decide) ?_
    refine W.widen (k := 0) (n := 0) (Nat.le_of_ble_eq_true rfl) (Nat.le_of_ble_eq_true rfl) ?_
    exact W.iret (v := (zi 1)) hx hb hr (fun t ht hW => ⟨⟨(zi 1), (), rfl, congrArg zi ((pb_t c_7).symm), ⟨κ1_2, ms1_3, tn1_4, hz_5, hm_6, by rw [ht]; exact hP, va_K.moved hW.alike hK, hD⟩⟩, hS.F ht⟩) hS.2.2 dL_prove_17

def zs_c_L_proveX : List Cond := .codeWith yL_prove cL_prove 6 (some .int) [(0, 17, 18, 77)] :: (([.code yX7_prove cX7_prove 6 (some .boolean), .code yX7_find cX7_find 3 (some (.object "Haltingale$Machine")), .fieldLink RX7 148 "Haltingale" "machineCount" "I", .fieldLink RX7 11 "Haltingale" "machines" "[LHaltingale$Machine;", .methodLink RX7 67 yX7_find, .instanceMethod yX7_find, .initialized RX7, .selects RX7 yX7_find yX7_find, .code yX7_isCertificate cX7_isCertificate 3 (some .boolean), .code yX7_isWithin cX7_isWithin 3 (some .boolean), .methodLink RX7 49 yX7_isWithin, .static yX7_isWithin, .methodLink RX7 130 yX7_isCertificate, .static yX7_isCertificate, .code yX7_require cX7_require 1 none, .methodLink RX7 53 yX7_require, .static yX7_require, .code yX7_requireOpen cX7_requireOpen 1 none, .fieldLink RX7 151 "Haltingale$Machine" "kind" "I", .instantiable "java/lang/IllegalStateException" 6, .classLink RX7 83 "java/lang/IllegalStateException", .initialized "java/lang/IllegalStateException", .methodLink RX7 133 yX7_requireOpen, .static yX7_requireOpen, .methodLink RL 74 yX7_prove, .instanceMethod yX7_prove, .selects RX7 yX7_prove yX7_prove, .classLink RL 77 "java/lang/IllegalStateException"] : List Cond) ++ wsX70 ++ wsX30 ++ (vx_atS RX7 87 "java/lang/IllegalStateException" ["java/lang/RuntimeException", "java/lang/Exception"]).filter goodWord)
set_option maxHeartbeats 4000000 in
set_option maxRecDepth 100000 in
theorem c_L_proveX (l : Launch) (dC : Nat → ClassId) (dI : Nat → Nat → Nat) (cI cZ cM cT : ClassId) (hnt : l.stackTraces = false) (a0 : Nat) (sz : Nat) (hh : Nat) (ms : List pq_M) (gv : Int) (tn : Int) (tb : Int) (κ : pq_S) (i : Int) (am : Nat) (aw : Nat) (av : Nat) (ax : Nat) (T : pq_T) (kk : Int) (ka : Int) (kb : Int) (y1 : Int) (y2 : Int) (y3 : Int) (hms : pq_mo ms) (hκ : pq_Sok κ) (hi0 : 0 ≤ i) (hμ : ms[i.toNat]? = some (am, aw, av, ax, T, kk, ka, kb)) (hk : ¬ kk = -1) (hic0 : pq_ic y1 y2 y3) : Met l yL_prove zs_c_L_proveX ({ frames := 8, cells := 1, slots := 6, locals := 127 }) (va_Pc [.ref hh, .int (zi i), .int (zi y1), .int (zi y2), .int (zi y3)] (fun U => U.heap.size = sz ∧ va_P (dC, dI) vwCl ([] ++ (pq_WD cI cZ cM cT hh ms gv tn tb κ)) U.heap ∧ va_K (dC, dI) vwCl (zT4 cI cZ cM cT) U ∧ va_D (fun _ => True) ([] ++ (pq_WD cI cZ cM cT hh ms gv tn tb κ)) ∧ zB a0 (va_A ([] ++ (pq_WD cI cZ cM cT hh ms gv tn tb κ)) sz) U U.heap)) (va_Qi (fun (r : Int32) (_ : Unit) => r = zi (-1)) (fun _ t => va_P (dC, dI) vwCl ([] ++ (pq_WD cI cZ cM cT hh ms gv tn tb κ)) t.heap ∧ va_K (dC, dI) vwCl (zT4 cI cZ cM cT) t ∧ va_D (va_A ([] ++ (pq_WD cI cZ cM cT hh ms gv tn tb κ)) sz) ([] ++ (pq_WD cI cZ cM cT hh ms gv tn tb κ))) (va_A ([] ++ (pq_WD cI cZ cM cT hh ms gv tn tb κ)) sz)) 1 6 (va_A ([] ++ (pq_WD cI cZ cM cT hh ms gv tn tb κ)) sz) := by
  refine va_MetW (cc := cL_prove) (maxL := 6) (ret := (some .int)) (hh := [(0, 17, 18, 77)]) (by decide) rfl ?_
  intro p e s m args below meth c s₁ B hml hv
  obtain ⟨rfl, hsz, hP, hK, hD0, hZ⟩ := hv
  have hx := B.exec
  have hb := B.bytes
  have hr := B.returns
  have hts := atoms_spec (ws := zs_c_L_proveX) B.pre
  have hown : s.vm.findClass RL = some m.cls := findClass_of_methodNamed B.named
  have hlocks := B.notSynchronized
  subst hsz
  have hD := hD0.self (sz := s.heap.size)
  generalize hAe : va_A ([] ++ (pq_WD cI cZ cM cT hh ms gv tn tb κ)) s.heap.size = A at hD hZ ⊢
  have hA : ∀ q : Nat, s.heap.size ≤ q → A q := fun q h => by rw [← hAe]; exact Or.inr h
  have hS : va_S A s.heap s.heap [] := va_S.rf
  have hl := lv_entry ([.ref hh, .int (zi i), .int (zi y1), .int (zi y2), .int (zi y3)]) (n := 6) (Nat.le_of_ble_eq_true rfl)
  rw [lg_entry_eq]
  generalize (lg_sl ([.ref hh, .int (zi i), .int (zi y1), .int (zi y2), .int (zi y3)]) ++ List.replicate (6 - (lg_sl ([.ref hh, .int (zi i), .int (zi y1), .int (zi y2), .int (zi y3)])).length) Slot.unset).toArray = ls at hl ⊢
  have hl : lv_has ls 6 [(0, .ref hh), (1, .int (zi i)), (2, .int (zi y1)), (3, .int (zi y2)), (4, .int (zi y3))] := hl
  refine lv_aload_n hx hb dL_prove_0 rfl (lv_at hl 0 rfl) ?_
  refine lv_iload_n hx hb dL_prove_1 rfl (lv_at hl 1 rfl) ?_
  refine lv_iload_n hx hb dL_prove_2 rfl (lv_at hl 2 rfl) ?_
  refine lv_iload_n hx hb dL_prove_3 rfl (lv_at hl 3 rfl) ?_
  refine lv_iload hx hb dL_prove_4 (lv_at hl 4 rfl) ?_
  have hPc := hP.part (cx := []) [] rfl
  have hDc := hD.part (cx := []) [] (by decide) rfl
  have hFc := va_freeP (cx := []) hD hS hA [] rfl
  have hZc := ((hZ.kept hS.2.1).narrow hFc)
  refine vx_calli (vx_runV (As := [.int (zi i), .int (zi y1), .int (zi y2), .int (zi y3)]) (rest := []) ⟨hx, hb, hml, hown, hts⟩ (c_X7_proveX l dC dI cI cZ cM cT hnt a0 s.heap.size hh ms gv tn tb κ i am aw av ax T kk ka kb y1 y2 y3 (by first | assumption | omega | rfl) (by first | assumption | omega | rfl) (by first | assumption | omega | rfl) hμ (by first | assumption | omega | rfl) (by first | assumption | omega | rfl)) (cwV 4 hts (goodIn_of _ (by decide +kernel)) rfl rfl rfl (by decide +kernel) ⟨Nat.le_of_ble_eq_true rfl, Nat.le_of_ble_eq_true rfl⟩) ⟨fun a U g mk q => by obtain ⟨q0, q1, qP, qK, qD, qZ⟩ := q; exact ⟨q0, q1, qP, va_K.moved (u := U) (U := U.calling g mk a) (Vm.Alike.refl U.vm) qK, qD, qZ.call⟩, va_recv hK hPc (ci := 6) (q0 := 0) rfl rfl, fun U hU hW => ⟨rfl, by rw [hU], by rw [hU]; exact hPc, va_K.moved hW.alike hK, hDc.weaken (fun _ _ _ _ => trivial), by rw [hU]; exact hZc.warm hW⟩⟩ rfl rfl hl.1 rfl (lv_room (Nat.le_of_ble_eq_true rfl)) dL_prove_6 ⟨Nat.le_of_ble_eq_true rfl, Nat.le_of_ble_eq_true rfl⟩) hS (fun q _ h => hFc q h) hFc (fun q _ h => hFc q h) (fun E ce q9 u t H1 locs ht hvm hw hB hz1 hk1 hS hce hcv hcl => ?_) (fun r_1 u t H1 locs ht hvm hw hB hz1 hk1 hS => ?_)
  · obtain ⟨hE, hP1, hK1, hD1⟩ := hB
    rw [ht] at hP1
    obtain ⟨hP, hD⟩ := va_joinP (wr := []) (rx := []) (pl1 := (pq_WD cI cZ cM cT hh ms gv tn tb κ)) hP hD [] [] rfl rfl (by decide) (by decide) hk1 hFc hP1 hD1
    generalize H1 = H at hP hS hce ⊢
    have hP : va_P (dC, dI) vwCl ([] ++ (pq_WD cI cZ cM cT hh ms gv tn tb κ)) H := hP
    have hD : va_D A ([] ++ (pq_WD cI cZ cM cT hh ms gv tn tb κ)) := hD
    obtain rfl := hE
    refine vx_catch hown [] ⟨0, 17, 18, 77⟩ (tableOf [(0, 17, 18, 77)]).tail ((vx_table (x := yL_prove) B (hts (.codeWith yL_prove cL_prove 6 (some .int) [(0, 17, 18, 77)]) (by decide +kernel))).trans rfl) (fun z h => by simp at h) (by decide) (by decide) (hts (.classLink RL 77 "java/lang/IllegalStateException") (by decide +kernel)) (zz_cast (hts (.instantiable "java/lang/IllegalStateException" 6) (by decide +kernel))) hce hcv hcl ?_
    refine W.widen (k := 1) (n := 6) (Nat.le_of_ble_eq_true rfl) (Nat.le_of_ble_eq_true rfl) ?_
    refine lv_astore (lv' := [(5, .ref q9), (0, .ref hh), (1, .int (zi i)), (2, .int (zi y1)), (3, .int (zi y2)), (4, .int (zi y3))]) hx hb dL_prove_18 hl (by decide) rfl (fun ls hl => ?_)
    refine lv_iconst (v := zi (-1)) hx hb dL_prove_20 (by decide) ?_
    refine W.widen (k := 1) (n := 6) (Nat.le_of_ble_eq_true rfl) (Nat.le_of_ble_eq_true rfl) ?_
    exact W.iret (v := (zi (-1))) hx hb hr (fun t ht hW => ⟨⟨(zi (-1)), (), rfl, rfl, ⟨by rw [ht]; exact hP, va_K.moved hW.alike hK, hD⟩⟩, hS.F ht⟩) hS.2.2 dL_prove_21
  exact hB.elim

def zs_c_L_machine : List Cond := .code yL_machine cL_machine 9 (some .int) :: (([.code yL_below cL_below 2 (some .int), .constant RL 7 (2147483647), .methodLink RL 9 yL_below, .static yL_below, .initialized RL, .code yX7_machine cX7_machine 2 (some .int), .code yX7_isWithin cX7_isWithin 3 (some .boolean), .methodLink RX7 49 yX7_isWithin, .static yX7_isWithin, .initialized RX7, .code yX7_require cX7_require 1 none, .methodLink RX7 53 yX7_require, .static yX7_require, .code yX7_requireRoomForMachine cX7_requireRoomForMachine 1 none, .fieldLink RX7 148 "Haltingale" "machineCount" "I", .methodLink RX7 57 yX7_requireRoomForMachine, .instanceMethod yX7_requireRoomForMachine, .selects RX7 yX7_requireRoomForMachine yX7_requireRoomForMachine, .classLink RX7 9 RX3, .instantiable RX3 7, .initialized RX3, .code yX3_init cX3_init 3 none, .methodLink RX3 3 objectInit, .instanceMethod objectInit, .code objectInit ⟨#[0xb1]⟩ 1 none, .fieldLink RX3 9 "Haltingale$Machine" "states" "I", .arrayClass .int, .fieldLink RX3 15 "Haltingale$Machine" "writes" "[I", .fieldLink RX3 19 "Haltingale$Machine" "moves" "[I", .fieldLink RX3 22 "Haltingale$Machine" "nexts" "[I", .fieldLink RX3 25 "Haltingale$Machine" "kind" "I", .fieldLink RX3 28 "Haltingale$Machine" "a" "I", .fieldLink RX3 31 "Haltingale$Machine" "b" "I", .methodLink RX7 60 yX3_init, .instanceMethod yX3_init, .code yX7_append cX7_append 2 (some .int), .fieldLink RX7 11 "Haltingale" "machines" "[LHaltingale$Machine;", .methodLink RX7 63 yX7_append, .instanceMethod yX7_append, .selects RX7 yX7_append yX7_append, .methodLink RL 15 yX7_machine, .instanceMethod yX7_machine, .selects RX7 yX7_machine yX7_machine, .code yX7_tell cX7_tell 9 (some .int), .code yX7_find cX7_find 3 (some (.object "Haltingale$Machine")), .methodLink RX7 67 yX7_find, .instanceMethod yX7_find, .selects RX7 yX7_find yX7_find, .code yX7_findCell cX7_findCell 3 (some .int), .fieldLink RX7 107 "Haltingale$Machine" "states" "I", .methodLink RX7 71 yX7_findCell, .static yX7_findCell, .code yX7_isFilling cX7_isFilling 4 (some .boolean), .methodLink RX7 75 yX7_isFilling, .static yX7_isFilling, .code yX3_isEmpty cX3_isEmpty 2 (some .boolean), .methodLink RX7 79 yX3_isEmpty, .instanceMethod yX3_isEmpty, .selects RX3 yX3_isEmpty yX3_isEmpty, .code yX3_fill cX3_fill 5 none, .methodLink RX7 90 yX3_fill, .instanceMethod yX3_fill, .selects RX3 yX3_fill yX3_fill, .code yX7_takeBack cX7_takeBack 2 (some .boolean), .fieldLink RX7 151 "Haltingale$Machine" "kind" "I", .code yX3_settle cX3_settle 4 none, .methodLink RX7 145 yX3_settle, .instanceMethod yX3_settle, .selects RX3 yX3_settle yX3_settle, .fieldLink RX7 255 "Haltingale" "takenBackCount" "I", .methodLink RX7 94 yX7_takeBack, .instanceMethod yX7_takeBack, .selects RX7 yX7_takeBack yX7_takeBack, .code yX3_countEmpty cX3_countEmpty 3 (some .int), .code yX3_countCells cX3_countCells 1 (some .int), .methodLink RX3 42 yX3_countCells, .instanceMethod yX3_countCells, .selects RX3 yX3_countCells yX3_countCells, .methodLink RX3 34 yX3_isEmpty, .methodLink RX7 98 yX3_countEmpty, .instanceMethod yX3_countEmpty, .selects RX3 yX3_countEmpty yX3_countEmpty, .methodLink RL 21 yX7_tell, .instanceMethod yX7_tell, .selects RX7 yX7_tell yX7_tell] : List Cond) ++ wsX70 ++ wsX30)
set_option maxHeartbeats 4000000 in
set_option maxRecDepth 100000 in
theorem c_L_machine (l : Launch) (dC : Nat → ClassId) (dI : Nat → Nat → Nat) (cI cZ cM cT : ClassId) (sz : Nat) (hh : Nat) (ms : List pq_M) (gv : Int) (tn : Int) (tb : Int) (κ : pq_S) (a9 : Int32) (b9 : Int32) (f9 : Int) (hms : pq_mo ms) (hκ : pq_Sok κ) (hmL : ms.length < 12) (hf9 : 0 ≤ f9 ∧ f9 ≤ 100) : Met l yL_machine zs_c_L_machine ({ frames := 3, cells := 4, slots := 31, locals := 73 }) (va_Pc [.ref hh, .int a9, .int b9, .int (zi f9)] (fun U => U.heap.size = sz ∧ va_P (dC, dI) vwCl ([] ++ (pq_WD cI cZ cM cT hh ms gv tn tb κ)) U.heap ∧ va_K (dC, dI) vwCl (zT4 cI cZ cM cT) U ∧ va_D (fun _ => True) ([] ++ (pq_WD cI cZ cM cT hh ms gv tn tb κ)))) (va_Qi (fun (r : Int32) (_ : Unit) => True) (fun _ t => ∃ (κ1 : pq_S) (ms1 : List pq_M), (pq_Sok κ1) ∧ (pq_mo ms1 ∧ ms1.length = ms.length + 1) ∧ va_P (dC, dI) vwCl ([] ++ (pq_WD cI cZ cM cT hh ms1 gv tn tb κ1)) t.heap ∧ va_K (dC, dI) vwCl (zT4 cI cZ cM cT) t ∧ va_D (va_A ([] ++ (pq_WD cI cZ cM cT hh ms gv tn tb κ)) sz) ([] ++ (pq_WD cI cZ cM cT hh ms1 gv tn tb κ1))) (va_A ([] ++ (pq_WD cI cZ cM cT hh ms gv tn tb κ)) sz)) 4 31 (va_A ([] ++ (pq_WD cI cZ cM cT hh ms gv tn tb κ)) sz) := by
  refine Met.ofW (cc := cL_machine) (maxL := 9) (ret := (some .int)) (by decide) rfl ?_
  intro p e s m args below meth c s₁ B hml hv
  obtain ⟨rfl, hsz, hP, hK, hD0⟩ := hv
  have hx := B.exec
  have hb := B.bytes
  have hr := B.returns
  have hts := atoms_spec (ws := zs_c_L_machine) B.pre
  have hown : s.vm.findClass RL = some m.cls := findClass_of_methodNamed B.named
  have hlocks := B.notSynchronized
  subst hsz
  have hD := hD0.self (sz := s.heap.size)
  generalize hAe : va_A ([] ++ (pq_WD cI cZ cM cT hh ms gv tn tb κ)) s.heap.size = A at hD ⊢
  have hA : ∀ q : Nat, s.heap.size ≤ q → A q := fun q h => by rw [← hAe]; exact Or.inr h
  have hS : va_S A s.heap s.heap [] := va_S.rf
  have hl := lv_entry ([.ref hh, .int a9, .int b9, .int (zi f9)]) (n := 9) (Nat.le_of_ble_eq_true rfl)
  rw [lg_entry_eq]
  generalize (lg_sl ([.ref hh, .int a9, .int b9, .int (zi f9)]) ++ List.replicate (9 - (lg_sl ([.ref hh, .int a9, .int b9, .int (zi f9)])).length) Slot.unset).toArray = ls at hl ⊢
  have hl : lv_has ls 9 [(0, .ref hh), (1, .int a9), (2, .int b9), (3, .int (zi f9))] := hl
  refine lv_iconst (v := zi 2) hx hb dL_machine_0 (by decide) ?_
  refine lv_iload_n hx hb dL_machine_1 rfl (lv_at hl 1 rfl) ?_
  refine lv_iconst (v := zi 3) hx hb dL_machine_2 (by decide) ?_
  have hPc := hP.sub (ws' := []) [] rfl
  have hDc := hD.sub (ws' := []) [] (by decide) rfl
  have hFc := va_free (wc := []) hD hS hA [] rfl
  refine va_calli (va_runS (As := [.int a9, .int (zi 3)]) (rest := [.int (zi 2)]) ⟨hx, hb, hml, hown, hts⟩ (c_L_below l dC dI cI cZ cM cT s.heap.size a9 3 (by first | assumption | omega | rfl)) (va_cwS 2 hts (goodIn_of _ (by decide +kernel)) rfl rfl rfl (by decide +kernel) ⟨Nat.le_of_ble_eq_true rfl, Nat.le_of_ble_eq_true rfl⟩) ⟨fun a U g mk q => by obtain ⟨q0, q1, qP, qK, qD⟩ := q; exact ⟨q0, q1, qP, va_K.moved (u := U) (U := U.calling g mk a) (Vm.Alike.refl U.vm) qK, qD⟩, fun U hU hW => ⟨rfl, by rw [hU], by rw [hU]; exact hPc, va_K.moved hW.alike hK, hDc.weaken (fun _ _ _ _ => trivial)⟩⟩ rfl rfl hl.1 rfl (lv_room (Nat.le_of_ble_eq_true rfl)) dL_machine_3 ⟨Nat.le_of_ble_eq_true rfl, Nat.le_of_ble_eq_true rfl⟩) hS (fun q _ h => hFc q h) hFc (fun r_1 u t H1 locs ht hvm hw hB hz1 hk1 hS => ?_)
  obtain ⟨hP1, hK1, hD1⟩ := hB
  rw [ht] at hP1
  obtain ⟨hP, hD⟩ := va_joinQ (wr := []) (w1 := []) (pl := (pq_WD cI cZ cM cT hh ms gv tn tb κ)) hP hD [] [] rfl rfl (by decide) (by decide) hk1 hFc hP1 hD1
  generalize H1 = H at hP hS ⊢
  have hP : va_P (dC, dI) vwCl ([] ++ (pq_WD cI cZ cM cT hh ms gv tn tb κ)) H := hP
  have hD : va_D A ([] ++ (pq_WD cI cZ cM cT hh ms gv tn tb κ)) := hD
  refine W.widen (k := 0) (n := 0) (Nat.le_of_ble_eq_true rfl) (Nat.le_of_ble_eq_true rfl) ?_
  obtain ⟨q_2, rfl, hq_3⟩ := hw
  refine pz_iadd hx hb dL_machine_6 ?_
  refine lv_istore (lv' := [(4, .int (zi (2 + q_2))), (0, .ref hh), (1, .int a9), (2, .int b9), (3, .int (zi f9))]) hx hb dL_machine_7 hl (by decide) rfl (fun ls hl => ?_)
  refine lv_aload_n hx hb dL_machine_9 rfl (lv_at hl 1 rfl) ?_
  refine lv_iload hx hb dL_machine_10 (lv_at hl 0 rfl) ?_
  have hPc := hP.part (cx := []) [] rfl
  have hDc := hD.part (cx := []) [] (by decide) rfl
  have hFc := va_freeP (cx := []) hD hS hA [] rfl
  refine va_calli (va_runV (As := [.int (zi (2 + q_2))]) (rest := []) ⟨hx, hb, hml, hown, hts⟩ (c_X7_machine l dC dI cI cZ cM cT H.size hh ms gv tn tb κ (2 + q_2) (by first | assumption | omega | rfl) (by first | assumption | omega | rfl) (by first | assumption | omega | rfl) (by have := hq_3; omega)) (cwV 1 hts (goodIn_of _ (by decide +kernel)) rfl rfl rfl (by decide +kernel) ⟨Nat.le_of_ble_eq_true rfl, Nat.le_of_ble_eq_true rfl⟩) ⟨fun a U g mk q => by obtain ⟨q0, q1, qP, qK, qD⟩ := q; exact ⟨q0, q1, qP, va_K.moved (u := U) (U := U.calling g mk a) (Vm.Alike.refl U.vm) qK, qD⟩, va_recv hK hPc (ci := 6) (q0 := 0) rfl rfl, fun U hU hW => ⟨rfl, by rw [hU], by rw [hU]; exact hPc, va_K.moved hW.alike hK, hDc.weaken (fun _ _ _ _ => trivial)⟩⟩ rfl rfl hl.1 rfl (lv_room (Nat.le_of_ble_eq_true rfl)) dL_machine_12 ⟨Nat.le_of_ble_eq_true rfl, Nat.le_of_ble_eq_true rfl⟩) hS (fun q _ h => hFc q h) hFc (fun r_4 u t H1 locs ht hvm hw hB hz1 hk1 hS => ?_)
  obtain ⟨κ1_5, ms1_6, μ1_7, hz_8, hm_9, hP1, hK1, hD1⟩ := hB
  rw [ht] at hP1
  obtain ⟨hP, hD⟩ := va_joinP (wr := []) (rx := []) (pl1 := (pq_WD cI cZ cM cT hh ms1_6 gv tn tb κ1_5)) hP hD [] [] rfl rfl (by decide) (by decide) hk1 hFc hP1 hD1
  generalize H1 = H at hP hS ⊢
  have hP : va_P (dC, dI) vwCl ([] ++ (pq_WD cI cZ cM cT hh ms1_6 gv tn tb κ1_5)) H := hP
  have hD : va_D A ([] ++ (pq_WD cI cZ cM cT hh ms1_6 gv tn tb κ1_5)) := hD
  refine W.widen (k := 4) (n := 31) (Nat.le_of_ble_eq_true rfl) (Nat.le_of_ble_eq_true rfl) ?_
  obtain rfl : r_4 = zi (ms.length : Int) := hw
  refine lv_istore (lv' := [(5, .int (zi (ms.length : Int))), (4, .int (zi (2 + q_2))), (0, .ref hh), (1, .int a9), (2, .int b9), (3, .int (zi f9))]) hx hb dL_machine_15 hl (by decide) rfl (fun ls hl => ?_)
  obtain ⟨rfl, hm2, hm3, hm4⟩ := hm_9
  obtain ⟨am, aw, av, ax, T, k1, k2, k3⟩ := μ1_7
  obtain ⟨rfl, rfl, rfl⟩ : k1 = -1 ∧ k2 = -1 ∧ k3 = -1 := by cases hm2; exact ⟨rfl, rfl, rfl⟩
  have hqn : 2 ≤ 2 + q_2 ∧ 2 + q_2 ≤ 4 := by have := hq_3; omega
  have hT0 : pq_ok T := ⟨by have h9 : pq_n T = 2 + q_2 := hm3; omega, fun c hc => ⟨Or.inl (hm4 c hc), fun _ => hm4 c hc⟩⟩
  have hn3 : pq_n T = 2 + q_2 := hm3
  have hP : va_P (dC, dI) vwCl ([] ++ (pq_WD cI cZ cM cT hh (ms ++ [(am, aw, av, ax, T, -1, -1, -1)]) gv tn tb κ1_5)) H := hP
  have hD : va_D A ([] ++ (pq_WD cI cZ cM cT hh (ms ++ [(am, aw, av, ax, T, -1, -1, -1)]) gv tn tb κ1_5)) := hD
  refine lv_iconst (v := zi 0) hx hb dL_machine_17 (by decide) ?_
  refine lv_istore (lv' := [(6, .int (zi 0)), (5, .int (zi (ms.length : Int))), (4, .int (zi (2 + q_2))), (0, .ref hh), (1, .int a9), (2, .int b9), (3, .int (zi f9))]) hx hb dL_machine_18 hl (by decide) rfl (fun ls hl => ?_)
  refine pz_loop (fun n9 H locs ls => ∃ (T2 : pq_T) (j : Int) (κ2 : pq_S) (tb2 : Int) , n9 = (2 * (2 + q_2) - j).toNat ∧ (0 ≤ j ∧ j ≤ 2 * (2 + q_2)) ∧ (pq_Sok κ2) ∧ (pq_ok T2 ∧ pq_n T2 = 2 + q_2) ∧ (∀ k : Nat, k < 8 → j.toNat ≤ k → pq_w T2 k = -1) ∧ (tb2 = tb) ∧ va_P (dC, dI) vwCl ([] ++ (pq_WD cI cZ cM cT hh (ms ++ [(am, aw, av, ax, T2, -1, -1, -1)]) gv tn tb2 κ2)) H ∧ va_D A ([] ++ (pq_WD cI cZ cM cT hh (ms ++ [(am, aw, av, ax, T2, -1, -1, -1)]) gv tn tb2 κ2)) ∧ va_S A s.heap H locs ∧ lv_has ls 9 [(0, .ref hh), (1, .int a9), (2, .int b9), (3, .int (zi f9)), (4, .int (zi (2 + q_2))), (5, .int (zi (ms.length : Int))), (6, .int (zi j))]) (fun n_20 H locs ls hI ih_20 => ?_) _ ⟨T, 0, κ1_5, tb, rfl, (by first | assumption | omega | rfl), hz_8, (⟨hT0, hn3⟩), (fun k hk _ => hm4 k hk), rfl, hP, hD, hS, lv_sub hl [3, 4, 5, 6, 2, 1, 0] rfl⟩
  obtain ⟨T2, j, κ2, tb2, hn_20, hj, hκ2, hT2, hE2, htb2, hP, hD, hS, hl⟩ := hI
  refine lv_iload hx hb dL_machine_20 (lv_at hl 6 rfl) ?_
  refine lv_iconst (v := zi 2) hx hb dL_machine_22 (by decide) ?_
  refine lv_iload hx hb dL_machine_23 (lv_at hl 4 rfl) ?_
  refine pz_imul hx hb dL_machine_25 ?_
  refine pz_icmp_ge (tgt := 145) hx hb (by omega) dL_machine_26 (by decide) (fun c_10 => ?_) (fun c_10 => ?_)
  · refine lv_iload hx hb dL_machine_145 (lv_at hl 5 rfl) ?_
    rw [htb2] at hP hD
    refine W.widen (k := 4) (n := 31) (Nat.le_of_ble_eq_true rfl) (Nat.le_of_ble_eq_true rfl) ?_
    exact W.iret (v := (zi (ms.length : Int))) hx hb hr (fun t ht hW => ⟨⟨(zi (ms.length : Int)), (), rfl, trivial, ⟨κ2, (ms ++ [(am, aw, av, ax, T2, -1, -1, -1)]), hκ2, (⟨pq_mo_push hms hmL ⟨hT2.1, Or.inl ⟨rfl, rfl, rfl⟩⟩, by rw [List.length_append]; rfl⟩), by rw [ht]; exact hP, va_K.moved hW.alike hK, hD⟩⟩, hS.F ht⟩) hS.2.2 dL_machine_147
  · refine lv_iload hx hb dL_machine_29 (lv_at hl 6 rfl) ?_
    refine lv_iconst (v := zi 4) hx hb dL_machine_31 (by decide) ?_
    refine pz_icmp_ge (tgt := 39) hx hb (by omega) dL_machine_32 (by decide) (fun c_11 => ?_) (fun c_11 => ?_)
    · refine lv_iload_n hx hb dL_machine_39 rfl (lv_at hl 2 rfl) ?_
      refine lv_iconst (v := zi 3) hx hb dL_machine_40 (by decide) ?_
      refine lv_iload hx hb dL_machine_41 (lv_at hl 6 rfl) ?_
      refine lv_iconst (v := zi 4) hx hb dL_machine_43 (by decide) ?_
      refine pz_irem hx hb (by omega) dL_machine_44 ?_
      refine lv_iconst (v := zi 5) hx hb dL_machine_45 (by decide) ?_
      refine pz_imul hx hb dL_machine_46 ?_
      refine pz_iadd hx hb dL_machine_47 ?_
      refine lv_ishr hx hb dL_machine_48 ?_
      refine lv_istore (lv' := [(7, .int (b9 >>> ((zi (3 + ((j % 4) * 5))) &&& 31))), (0, .ref hh), (1, .int a9), (2, .int b9), (3, .int (zi f9)), (4, .int (zi (2 + q_2))), (5, .int (zi (ms.length : Int))), (6, .int (zi j))]) hx hb dL_machine_49 hl (by decide) rfl (fun ls hl => ?_)
      refine lv_iload hx hb dL_machine_51 (lv_at hl 0 rfl) ?_
      refine lv_iload hx hb dL_machine_53 (lv_at hl 7 rfl) ?_
      refine lv_iadd hx hb dL_machine_55 ?_
      refine lv_bipush (v := zi 9) hx hb dL_machine_56 (by decide) ?_
      have hPc := hP.sub (ws' := []) [] rfl
      have hDc := hD.sub (ws' := []) [] (by decide) rfl
      have hFc := va_free (wc := []) hD hS hA [] rfl
      refine va_calli (va_runS (As := [.int ((b9 >>> ((zi (3 + ((j % 4) * 5))) &&& 31)) + (zi j)), .int (zi 9)]) (rest := []) ⟨hx, hb, hml, hown, hts⟩ (c_L_below l dC dI cI cZ cM cT H.size ((b9 >>> ((zi (3 + ((j % 4) * 5))) &&& 31)) + (zi j)) 9 (by first | assumption | omega | rfl)) (va_cwS 2 hts (goodIn_of _ (by decide +kernel)) rfl rfl rfl (by decide +kernel) ⟨Nat.le_of_ble_eq_true rfl, Nat.le_of_ble_eq_true rfl⟩) ⟨fun a U g mk q => by obtain ⟨q0, q1, qP, qK, qD⟩ := q; exact ⟨q0, q1, qP, va_K.moved (u := U) (U := U.calling g mk a) (Vm.Alike.refl U.vm) qK, qD⟩, fun U hU hW => ⟨rfl, by rw [hU], by rw [hU]; exact hPc, va_K.moved hW.alike hK, hDc.weaken (fun _ _ _ _ => trivial)⟩⟩ rfl rfl hl.1 rfl (lv_room (Nat.le_of_ble_eq_true rfl)) dL_machine_58 ⟨Nat.le_of_ble_eq_true rfl, Nat.le_of_ble_eq_true rfl⟩) hS (fun q _ h => hFc q h) hFc (fun r_12 u t H1 locs ht hvm hw hB hz1 hk1 hS => ?_)
      obtain ⟨hP1, hK1, hD1⟩ := hB
      rw [ht] at hP1
      obtain ⟨hP, hD⟩ := va_joinQ (wr := []) (w1 := []) (pl := (pq_WD cI cZ cM cT hh (ms ++ [(am, aw, av, ax, T2, -1, -1, -1)]) gv tn tb2 κ2)) hP hD [] [] rfl rfl (by decide) (by decide) hk1 hFc hP1 hD1
      generalize H1 = H at hP hS ⊢
      have hP : va_P (dC, dI) vwCl ([] ++ (pq_WD cI cZ cM cT hh (ms ++ [(am, aw, av, ax, T2, -1, -1, -1)]) gv tn tb2 κ2)) H := hP
      have hD : va_D A ([] ++ (pq_WD cI cZ cM cT hh (ms ++ [(am, aw, av, ax, T2, -1, -1, -1)]) gv tn tb2 κ2)) := hD
      refine W.widen (k := 4) (n := 31) (Nat.le_of_ble_eq_true rfl) (Nat.le_of_ble_eq_true rfl) ?_
      obtain ⟨q_13, rfl, hq_14⟩ := hw
      refine lv_iload_n hx hb dL_machine_61 rfl (lv_at hl 4 rfl) ?_
      have hq11 := hq_14
      refine pz_icmp_lt (tgt := 68) hx hb (by omega) dL_machine_62 (by decide) (fun c_15 => ?_) (fun c_15 => ?_)
      · refine lv_iload hx hb dL_machine_68 (lv_at hl 0 rfl) ?_
        refine lv_iconst (v := zi 4) hx hb dL_machine_70 (by decide) ?_
        refine lv_ishr hx hb dL_machine_71 ?_
        refine lv_iconst (v := zi 3) hx hb dL_machine_72 (by decide) ?_
        refine lv_iload hx hb dL_machine_73 (lv_at hl 5 rfl) ?_
        refine pz_imul hx hb dL_machine_75 ?_
        refine lv_iconst (v := zi 1) hx hb dL_machine_76 (by decide) ?_
        refine pz_iadd hx hb dL_machine_77 ?_
        have hPc := hP.sub (ws' := []) [] rfl
        have hDc := hD.sub (ws' := []) [] (by decide) rfl
        have hFc := va_free (wc := []) hD hS hA [] rfl
        refine va_calli (va_runS (As := [.int ((b9 >>> ((zi (3 + ((j % 4) * 5))) &&& 31)) >>> ((zi 4) &&& 31)), .int (zi ((3 * (2 + q_2)) + 1))]) (rest := []) ⟨hx, hb, hml, hown, hts⟩ (c_L_below l dC dI cI cZ cM cT H.size ((b9 >>> ((zi (3 + ((j % 4) * 5))) &&& 31)) >>> ((zi 4) &&& 31)) ((3 * (2 + q_2)) + 1) (by first | assumption | omega | rfl)) (va_cwS 2 hts (goodIn_of _ (by decide +kernel)) rfl rfl rfl (by decide +kernel) ⟨Nat.le_of_ble_eq_true rfl, Nat.le_of_ble_eq_true rfl⟩) ⟨fun a U g mk q => by obtain ⟨q0, q1, qP, qK, qD⟩ := q; exact ⟨q0, q1, qP, va_K.moved (u := U) (U := U.calling g mk a) (Vm.Alike.refl U.vm) qK, qD⟩, fun U hU hW => ⟨rfl, by rw [hU], by rw [hU]; exact hPc, va_K.moved hW.alike hK, hDc.weaken (fun _ _ _ _ => trivial)⟩⟩ rfl rfl hl.1 rfl (lv_room (Nat.le_of_ble_eq_true rfl)) dL_machine_78 ⟨Nat.le_of_ble_eq_true rfl, Nat.le_of_ble_eq_true rfl⟩) hS (fun q _ h => hFc q h) hFc (fun r_16 u t H1 locs ht hvm hw hB hz1 hk1 hS => ?_)
        obtain ⟨hP1, hK1, hD1⟩ := hB
        rw [ht] at hP1
        obtain ⟨hP, hD⟩ := va_joinQ (wr := []) (w1 := []) (pl := (pq_WD cI cZ cM cT hh (ms ++ [(am, aw, av, ax, T2, -1, -1, -1)]) gv tn tb2 κ2)) hP hD [] [] rfl rfl (by decide) (by decide) hk1 hFc hP1 hD1
        generalize H1 = H at hP hS ⊢
        have hP : va_P (dC, dI) vwCl ([] ++ (pq_WD cI cZ cM cT hh (ms ++ [(am, aw, av, ax, T2, -1, -1, -1)]) gv tn tb2 κ2)) H := hP
        have hD : va_D A ([] ++ (pq_WD cI cZ cM cT hh (ms ++ [(am, aw, av, ax, T2, -1, -1, -1)]) gv tn tb2 κ2)) := hD
        refine W.widen (k := 4) (n := 31) (Nat.le_of_ble_eq_true rfl) (Nat.le_of_ble_eq_true rfl) ?_
        obtain ⟨q_17, rfl, hq_18⟩ := hw
        refine lv_istore (lv' := [(8, .int (zi q_17)), (7, .int (b9 >>> ((zi (3 + ((j % 4) * 5))) &&& 31))), (0, .ref hh), (1, .int a9), (2, .int b9), (3, .int (zi f9)), (4, .int (zi (2 + q_2))), (5, .int (zi (ms.length : Int))), (6, .int (zi j))]) hx hb dL_machine_81 hl (by decide) rfl (fun ls hl => ?_)
        have hμ9 : (ms ++ [(am, aw, av, ax, T2, -1, -1, -1)])[(ms.length : Int).toNat]? = some (am, aw, av, ax, T2, -1, -1, -1) := by rw [Int.toNat_natCast, List.getElem?_append_right (Nat.le_refl _), Nat.sub_self]; rfl
        have hmo9 : pq_mo (ms ++ [(am, aw, av, ax, T2, -1, -1, -1)]) := pq_mo_push hms hmL ⟨hT2.1, Or.inl ⟨rfl, rfl, rfl⟩⟩
        have hn9 := hT2.2
        refine lv_aload_n hx hb dL_machine_83 rfl (lv_at hl 2 rfl) ?_
        refine lv_iload hx hb dL_machine_84 (lv_at hl 7 rfl) ?_
        refine lv_iload hx hb dL_machine_86 (lv_at hl 8 rfl) ?_
        refine lv_iconst (v := zi 2) hx hb dL_machine_88 (by decide) ?_
        refine pz_idiv hx hb (by omega) dL_machine_89 ?_
        refine lv_iload hx hb dL_machine_90 (lv_at hl 8 rfl) ?_
        refine lv_iconst (v := zi 2) hx hb dL_machine_92 (by decide) ?_
        refine pz_irem hx hb (by omega) dL_machine_93 ?_
        refine lv_iload hx hb dL_machine_94 (lv_at hl 1 rfl) ?_
        refine lv_iconst (v := zi 2) hx hb dL_machine_96 (by decide) ?_
        have hPc := hP.sub (ws' := []) [] rfl
        have hDc := hD.sub (ws' := []) [] (by decide) rfl
        have hFc := va_free (wc := []) hD hS hA [] rfl
        refine va_calli (va_runS (As := [.int (b9 >>> ((zi (3 + ((j % 4) * 5))) &&& 31)), .int (zi 2)]) (rest := [.int (zi (j % 2)), .int (zi (j / 2)), .int (zi (ms.length : Int)), .ref hh]) ⟨hx, hb, hml, hown, hts⟩ (c_L_below l dC dI cI cZ cM cT H.size (b9 >>> ((zi (3 + ((j % 4) * 5))) &&& 31)) 2 (by first | assumption | omega | rfl)) (va_cwS 2 hts (goodIn_of _ (by decide +kernel)) rfl rfl rfl (by decide +kernel) ⟨Nat.le_of_ble_eq_true rfl, Nat.le_of_ble_eq_true rfl⟩) ⟨fun a U g mk q => by obtain ⟨q0, q1, qP, qK, qD⟩ := q; exact ⟨q0, q1, qP, va_K.moved (u := U) (U := U.calling g mk a) (Vm.Alike.refl U.vm) qK, qD⟩, fun U hU hW => ⟨rfl, by rw [hU], by rw [hU]; exact hPc, va_K.moved hW.alike hK, hDc.weaken (fun _ _ _ _ => trivial)⟩⟩ rfl rfl hl.1 rfl (lv_room (Nat.le_of_ble_eq_true rfl)) dL_machine_97 ⟨Nat.le_of_ble_eq_true rfl, Nat.le_of_ble_eq_true rfl⟩) hS (fun q _ h => hFc q h) hFc (fun r_19 u t H1 locs ht hvm hw hB hz1 hk1 hS => ?_)
        obtain ⟨hP1, hK1, hD1⟩ := hB
        rw [ht] at hP1
        obtain ⟨hP, hD⟩ := va_joinQ (wr := []) (w1 := []) (pl := (pq_WD cI cZ cM cT hh (ms ++ [(am, aw, av, ax, T2, -1, -1, -1)]) gv tn tb2 κ2)) hP hD [] [] rfl rfl (by decide) (by decide) hk1 hFc hP1 hD1
        generalize H1 = H at hP hS ⊢
        have hP : va_P (dC, dI) vwCl ([] ++ (pq_WD cI cZ cM cT hh (ms ++ [(am, aw, av, ax, T2, -1, -1, -1)]) gv tn tb2 κ2)) H := hP
        have hD : va_D A ([] ++ (pq_WD cI cZ cM cT hh (ms ++ [(am, aw, av, ax, T2, -1, -1, -1)]) gv tn tb2 κ2)) := hD
        refine W.widen (k := 4) (n := 31) (Nat.le_of_ble_eq_true rfl) (Nat.le_of_ble_eq_true rfl) ?_
        obtain ⟨q_20, rfl, hq_21⟩ := hw
        refine lv_iload hx hb dL_machine_100 (lv_at hl 1 rfl) ?_
        refine lv_iconst (v := zi 1) hx hb dL_machine_102 (by decide) ?_
        refine lv_ishr hx hb dL_machine_103 ?_
        refine lv_iconst (v := zi 2) hx hb dL_machine_104 (by decide) ?_
        have hPc := hP.sub (ws' := []) [] rfl
        have hDc := hD.sub (ws' := []) [] (by decide) rfl
        have hFc := va_free (wc := []) hD hS hA [] rfl
        refine va_calli (va_runS (As := [.int ((b9 >>> ((zi (3 + ((j % 4) * 5))) &&& 31)) >>> ((zi 1) &&& 31)), .int (zi 2)]) (rest := [.int (zi q_20), .int (zi (j % 2)), .int (zi (j / 2)), .int (zi (ms.length : Int)), .ref hh]) ⟨hx, hb, hml, hown, hts⟩ (c_L_below l dC dI cI cZ cM cT H.size ((b9 >>> ((zi (3 + ((j % 4) * 5))) &&& 31)) >>> ((zi 1) &&& 31)) 2 (by first | assumption | omega | rfl)) (va_cwS 2 hts (goodIn_of _ (by decide +kernel)) rfl rfl rfl (by decide +kernel) ⟨Nat.le_of_ble_eq_true rfl, Nat.le_of_ble_eq_true rfl⟩) ⟨fun a U g mk q => by obtain ⟨q0, q1, qP, qK, qD⟩ := q; exact ⟨q0, q1, qP, va_K.moved (u := U) (U := U.calling g mk a) (Vm.Alike.refl U.vm) qK, qD⟩, fun U hU hW => ⟨rfl, by rw [hU], by rw [hU]; exact hPc, va_K.moved hW.alike hK, hDc.weaken (fun _ _ _ _ => trivial)⟩⟩ rfl rfl hl.1 rfl (lv_room (Nat.le_of_ble_eq_true rfl)) dL_machine_105 ⟨Nat.le_of_ble_eq_true rfl, Nat.le_of_ble_eq_true rfl⟩) hS (fun q _ h => hFc q h) hFc (fun r_22 u t H1 locs ht hvm hw hB hz1 hk1 hS => ?_)
        obtain ⟨hP1, hK1, hD1⟩ := hB
        rw [ht] at hP1
        obtain ⟨hP, hD⟩ := va_joinQ (wr := []) (w1 := []) (pl := (pq_WD cI cZ cM cT hh (ms ++ [(am, aw, av, ax, T2, -1, -1, -1)]) gv tn tb2 κ2)) hP hD [] [] rfl rfl (by decide) (by decide) hk1 hFc hP1 hD1
        generalize H1 = H at hP hS ⊢
        have hP : va_P (dC, dI) vwCl ([] ++ (pq_WD cI cZ cM cT hh (ms ++ [(am, aw, av, ax, T2, -1, -1, -1)]) gv tn tb2 κ2)) H := hP
        have hD : va_D A ([] ++ (pq_WD cI cZ cM cT hh (ms ++ [(am, aw, av, ax, T2, -1, -1, -1)]) gv tn tb2 κ2)) := hD
        refine W.widen (k := 4) (n := 31) (Nat.le_of_ble_eq_true rfl) (Nat.le_of_ble_eq_true rfl) ?_
        obtain ⟨q_23, rfl, hq_24⟩ := hw
        have hq12 := hq_24
        refine pz_if_ne (tgt := 115) hx hb (by omega) dL_machine_108 (by decide) (fun c_25 => ?_) (fun c_25 => ?_)
        · refine lv_iconst (v := zi (-1)) hx hb dL_machine_115 (by decide) ?_
          refine lv_iload hx hb dL_machine_116 (lv_at hl 0 rfl) ?_
          refine lv_iconst (v := zi 3) hx hb dL_machine_118 (by decide) ?_
          refine lv_iload hx hb dL_machine_119 (lv_at hl 6 rfl) ?_
          refine pz_imul hx hb dL_machine_121 ?_
          have hq10 := hq_18
          refine pz_icmp_ne (tgt := 130) hx hb (by omega) dL_machine_122 (by decide) (fun c_26 => ?_) (fun c_26 => ?_)
          · refine lv_iload hx hb dL_machine_130 (lv_at hl 0 rfl) ?_
            refine lv_iload hx hb dL_machine_132 (lv_at hl 6 rfl) ?_
            have hq9 := hq_18
            refine pz_irem hx hb (by omega) dL_machine_134 ?_
            have hy3 : q_20 = 0 ∨ q_20 = 1 := by have := hq_21; omega
            have hq8 := hq_18
            have hmd1 := Int.emod_nonneg q_17 (show 2 + q_2 ≠ 0 by omega)
            have hmd2 := Int.emod_lt_of_pos q_17 (show 0 < 2 + q_2 by omega)
            have hnx : 0 ≤ q_17 % (2 + q_2) ∧ q_17 % (2 + q_2) ≤ pq_n T2 := by omega
            have hE0 : pq_E T2 (2 * (j / 2) + j % 2) := Or.inr (Or.inr (hE2 _ (by omega) (by omega)))
            have hPc := hP.part (cx := []) [] rfl
            have hDc := hD.part (cx := []) [] (by decide) rfl
            have hFc := va_freeP (cx := []) hD hS hA [] rfl
            refine va_calli (va_runV (As := [.int (zi (ms.length : Int)), .int (zi (j / 2)), .int (zi (j % 2)), .int (zi q_20), .int (zi (-1)), .int (zi (q_17 % (2 + q_2)))]) (rest := []) ⟨hx, hb, hml, hown, hts⟩ (c_X7_tell l dC dI cI cZ cM cT H.size hh (ms ++ [(am, aw, av, ax, T2, -1, -1, -1)]) gv tn tb2 κ2 (ms.length : Int) am aw av ax T2 (-1) (-1) (-1) (j / 2) (j % 2) q_20 (-1) (q_17 % (2 + q_2)) hmo9 hκ2 (by first | assumption | omega | rfl) hμ9 (by first | assumption | omega | rfl) (by first | assumption | omega | rfl) hy3 (by first | assumption | omega | rfl) hnx hE0) (cwV 6 hts (goodIn_of _ (by decide +kernel)) rfl rfl rfl (by decide +kernel) ⟨Nat.le_of_ble_eq_true rfl, Nat.le_of_ble_eq_true rfl⟩) ⟨fun a U g mk q => by obtain ⟨q0, q1, qP, qK, qD⟩ := q; exact ⟨q0, q1, qP, va_K.moved (u := U) (U := U.calling g mk a) (Vm.Alike.refl U.vm) qK, qD⟩, va_recv hK hPc (ci := 6) (q0 := 0) rfl rfl, fun U hU hW => ⟨rfl, by rw [hU], by rw [hU]; exact hPc, va_K.moved hW.alike hK, hDc.weaken (fun _ _ _ _ => trivial)⟩⟩ rfl rfl hl.1 rfl (lv_room (Nat.le_of_ble_eq_true rfl)) dL_machine_135 ⟨Nat.le_of_ble_eq_true rfl, Nat.le_of_ble_eq_true rfl⟩) hS (fun q _ h => hFc q h) hFc (fun r_27 u t H1 locs ht hvm hw hB hz1 hk1 hS => ?_)
            obtain ⟨tb1_28, κ1_29, ms1_30, hz_31, ht_32, hm_33, hP1, hK1, hD1⟩ := hB
            rw [ht] at hP1
            obtain ⟨hP, hD⟩ := va_joinP (wr := []) (rx := []) (pl1 := (pq_WD cI cZ cM cT hh ms1_30 gv tn tb1_28 κ1_29)) hP hD [] [] rfl rfl (by decide) (by decide) hk1 hFc hP1 hD1
            generalize H1 = H at hP hS ⊢
            have hP : va_P (dC, dI) vwCl ([] ++ (pq_WD cI cZ cM cT hh ms1_30 gv tn tb1_28 κ1_29)) H := hP
            have hD : va_D A ([] ++ (pq_WD cI cZ cM cT hh ms1_30 gv tn tb1_28 κ1_29)) := hD
            refine W.widen (k := 4) (n := 31) (Nat.le_of_ble_eq_true rfl) (Nat.le_of_ble_eq_true rfl) ?_
            obtain rfl : r_27 = zi (pq_ce (pq_fl T2 (2 * (j / 2) + (j % 2)).toNat q_20 (-1 : Int) (q_17 % (2 + q_2))) (2 * pq_n T2).toNat) := hw
            obtain ⟨T9, hT9e⟩ : ∃ T9, T9 = pq_fl T2 (2 * (j / 2) + j % 2).toNat q_20 (-1) (q_17 % (2 + q_2)) := ⟨_, rfl⟩
            have hset : (ms ++ [(am, aw, av, ax, T2, -1, -1, -1)]).set (ms.length : Int).toNat (am, aw, av, ax, T9, -1, -1, -1) = ms ++ [(am, aw, av, ax, T9, -1, -1, -1)] := by rw [Int.toNat_natCast, List.set_append, if_neg (Nat.lt_irrefl _), Nat.sub_self]; rfl
            have hm9 := hm_33
            rw [← hT9e, hset] at hm9
            rw [hm9] at hP hD
            have hP : va_P (dC, dI) vwCl ([] ++ (pq_WD cI cZ cM cT hh (ms ++ [(am, aw, av, ax, T9, -1, -1, -1)]) gv tn tb1_28 κ1_29)) H := hP
            have hD : va_D A ([] ++ (pq_WD cI cZ cM cT hh (ms ++ [(am, aw, av, ax, T9, -1, -1, -1)]) gv tn tb1_28 κ1_29)) := hD
            have hT9 : pq_ok T9 := by rw [hT9e]; exact pq_ok_fl hT2.1 (by omega) hy3 (by omega) hnx
            have hE9 : ∀ k : Nat, k < 8 → (j + 1).toNat ≤ k → pq_w T9 k = -1 := by rw [hT9e]; exact pq_fl_E (j := (j + 1).toNat) (fun k hk h => hE2 k hk (by omega)) (by omega)
            refine lv_pop hx hb dL_machine_138 rfl ?_
            refine pz_iinc (lv' := [(6, .int (zi (j + 1))), (8, .int (zi q_17)), (7, .int (b9 >>> ((zi (3 + ((j % 4) * 5))) &&& 31))), (0, .ref hh), (1, .int a9), (2, .int b9), (3, .int (zi f9)), (4, .int (zi (2 + q_2))), (5, .int (zi (ms.length : Int)))]) hx hb dL_machine_139 hl (k := 8) rfl (by decide) rfl (fun ls hl => ?_)
            refine lv_goto (tgt := 20) hx hb dL_machine_142 (by decide) ?_
            exact ih_20 _ _ _ _ ⟨T9, j + 1, κ1_29, tb1_28, rfl, (by first | assumption | omega | rfl), hz_31, (⟨hT9, by rw [hT9e]; exact hT2.2⟩), hE9, (by rw [ht_32, pb_f (fun h => h rfl), htb2, Int.add_zero]), hP, hD, hS, lv_sub hl [3, 4, 5, 6, 7, 8, 0] rfl⟩ (by omega)
          · refine lv_iload hx hb dL_machine_125 (lv_at hl 6 rfl) ?_
            refine lv_goto (tgt := 135) hx hb dL_machine_127 (by decide) ?_
            have hy3 : q_20 = 0 ∨ q_20 = 1 := by have := hq_21; omega
            have hq8 := hq_18
            have hmd1 := Int.emod_nonneg q_17 (show 2 + q_2 ≠ 0 by omega)
            have hmd2 := Int.emod_lt_of_pos q_17 (show 0 < 2 + q_2 by omega)
            have hnx : 0 ≤ 2 + q_2 ∧ 2 + q_2 ≤ pq_n T2 := by omega
            have hE0 : pq_E T2 (2 * (j / 2) + j % 2) := Or.inr (Or.inr (hE2 _ (by omega) (by omega)))
            have hPc := hP.part (cx := []) [] rfl
            have hDc := hD.part (cx := []) [] (by decide) rfl
            have hFc := va_freeP (cx := []) hD hS hA [] rfl
            refine va_calli (va_runV (As := [.int (zi (ms.length : Int)), .int (zi (j / 2)), .int (zi (j % 2)), .int (zi q_20), .int (zi (-1)), .int (zi (2 + q_2))]) (rest := []) ⟨hx, hb, hml, hown, hts⟩ (c_X7_tell l dC dI cI cZ cM cT H.size hh (ms ++ [(am, aw, av, ax, T2, -1, -1, -1)]) gv tn tb2 κ2 (ms.length : Int) am aw av ax T2 (-1) (-1) (-1) (j / 2) (j % 2) q_20 (-1) (2 + q_2) hmo9 hκ2 (by first | assumption | omega | rfl) hμ9 (by first | assumption | omega | rfl) (by first | assumption | omega | rfl) hy3 (by first | assumption | omega | rfl) hnx hE0) (cwV 6 hts (goodIn_of _ (by decide +kernel)) rfl rfl rfl (by decide +kernel) ⟨Nat.le_of_ble_eq_true rfl, Nat.le_of_ble_eq_true rfl⟩) ⟨fun a U g mk q => by obtain ⟨q0, q1, qP, qK, qD⟩ := q; exact ⟨q0, q1, qP, va_K.moved (u := U) (U := U.calling g mk a) (Vm.Alike.refl U.vm) qK, qD⟩, va_recv hK hPc (ci := 6) (q0 := 0) rfl rfl, fun U hU hW => ⟨rfl, by rw [hU], by rw [hU]; exact hPc, va_K.moved hW.alike hK, hDc.weaken (fun _ _ _ _ => trivial)⟩⟩ rfl rfl hl.1 rfl (lv_room (Nat.le_of_ble_eq_true rfl)) dL_machine_135 ⟨Nat.le_of_ble_eq_true rfl, Nat.le_of_ble_eq_true rfl⟩) hS (fun q _ h => hFc q h) hFc (fun r_34 u t H1 locs ht hvm hw hB hz1 hk1 hS => ?_)
            obtain ⟨tb1_35, κ1_36, ms1_37, hz_38, ht_39, hm_40, hP1, hK1, hD1⟩ := hB
            rw [ht] at hP1
            obtain ⟨hP, hD⟩ := va_joinP (wr := []) (rx := []) (pl1 := (pq_WD cI cZ cM cT hh ms1_37 gv tn tb1_35 κ1_36)) hP hD [] [] rfl rfl (by decide) (by decide) hk1 hFc hP1 hD1
            generalize H1 = H at hP hS ⊢
            have hP : va_P (dC, dI) vwCl ([] ++ (pq_WD cI cZ cM cT hh ms1_37 gv tn tb1_35 κ1_36)) H := hP
            have hD : va_D A ([] ++ (pq_WD cI cZ cM cT hh ms1_37 gv tn tb1_35 κ1_36)) := hD
            refine W.widen (k := 4) (n := 31) (Nat.le_of_ble_eq_true rfl) (Nat.le_of_ble_eq_true rfl) ?_
            obtain rfl : r_34 = zi (pq_ce (pq_fl T2 (2 * (j / 2) + (j % 2)).toNat q_20 (-1 : Int) (2 + q_2)) (2 * pq_n T2).toNat) := hw
            obtain ⟨T9, hT9e⟩ : ∃ T9, T9 = pq_fl T2 (2 * (j / 2) + j % 2).toNat q_20 (-1) (2 + q_2) := ⟨_, rfl⟩
            have hset : (ms ++ [(am, aw, av, ax, T2, -1, -1, -1)]).set (ms.length : Int).toNat (am, aw, av, ax, T9, -1, -1, -1) = ms ++ [(am, aw, av, ax, T9, -1, -1, -1)] := by rw [Int.toNat_natCast, List.set_append, if_neg (Nat.lt_irrefl _), Nat.sub_self]; rfl
            have hm9 := hm_40
            rw [← hT9e, hset] at hm9
            rw [hm9] at hP hD
            have hP : va_P (dC, dI) vwCl ([] ++ (pq_WD cI cZ cM cT hh (ms ++ [(am, aw, av, ax, T9, -1, -1, -1)]) gv tn tb1_35 κ1_36)) H := hP
            have hD : va_D A ([] ++ (pq_WD cI cZ cM cT hh (ms ++ [(am, aw, av, ax, T9, -1, -1, -1)]) gv tn tb1_35 κ1_36)) := hD
            have hT9 : pq_ok T9 := by rw [hT9e]; exact pq_ok_fl hT2.1 (by omega) hy3 (by omega) hnx
            have hE9 : ∀ k : Nat, k < 8 → (j + 1).toNat ≤ k → pq_w T9 k = -1 := by rw [hT9e]; exact pq_fl_E (j := (j + 1).toNat) (fun k hk h => hE2 k hk (by omega)) (by omega)
            refine lv_pop hx hb dL_machine_138 rfl ?_
            refine pz_iinc (lv' := [(6, .int (zi (j + 1))), (8, .int (zi q_17)), (7, .int (b9 >>> ((zi (3 + ((j % 4) * 5))) &&& 31))), (0, .ref hh), (1, .int a9), (2, .int b9), (3, .int (zi f9)), (4, .int (zi (2 + q_2))), (5, .int (zi (ms.length : Int)))]) hx hb dL_machine_139 hl (k := 8) rfl (by decide) rfl (fun ls hl => ?_)
            refine lv_goto (tgt := 20) hx hb dL_machine_142 (by decide) ?_
            exact ih_20 _ _ _ _ ⟨T9, j + 1, κ1_36, tb1_35, rfl, (by first | assumption | omega | rfl), hz_38, (⟨hT9, by rw [hT9e]; exact hT2.2⟩), hE9, (by rw [ht_39, pb_f (fun h => h rfl), htb2, Int.add_zero]), hP, hD, hS, lv_sub hl [3, 4, 5, 6, 7, 8, 0] rfl⟩ (by omega)
        · refine lv_iconst (v := zi 1) hx hb dL_machine_111 (by decide) ?_
          refine lv_goto (tgt := 116) hx hb dL_machine_112 (by decide) ?_
          refine lv_iload hx hb dL_machine_116 (lv_at hl 0 rfl) ?_
          refine lv_iconst (v := zi 3) hx hb dL_machine_118 (by decide) ?_
          refine lv_iload hx hb dL_machine_119 (lv_at hl 6 rfl) ?_
          refine pz_imul hx hb dL_machine_121 ?_
          have hq10 := hq_18
          refine pz_icmp_ne (tgt := 130) hx hb (by omega) dL_machine_122 (by decide) (fun c_41 => ?_) (fun c_41 => ?_)
          · refine lv_iload hx hb dL_machine_130 (lv_at hl 0 rfl) ?_
            refine lv_iload hx hb dL_machine_132 (lv_at hl 6 rfl) ?_
            have hq9 := hq_18
            refine pz_irem hx hb (by omega) dL_machine_134 ?_
            have hy3 : q_20 = 0 ∨ q_20 = 1 := by have := hq_21; omega
            have hq8 := hq_18
            have hmd1 := Int.emod_nonneg q_17 (show 2 + q_2 ≠ 0 by omega)
            have hmd2 := Int.emod_lt_of_pos q_17 (show 0 < 2 + q_2 by omega)
            have hnx : 0 ≤ q_17 % (2 + q_2) ∧ q_17 % (2 + q_2) ≤ pq_n T2 := by omega
            have hE0 : pq_E T2 (2 * (j / 2) + j % 2) := Or.inr (Or.inr (hE2 _ (by omega) (by omega)))
            have hPc := hP.part (cx := []) [] rfl
            have hDc := hD.part (cx := []) [] (by decide) rfl
            have hFc := va_freeP (cx := []) hD hS hA [] rfl
            refine va_calli (va_runV (As := [.int (zi (ms.length : Int)), .int (zi (j / 2)), .int (zi (j % 2)), .int (zi q_20), .int (zi 1), .int (zi (q_17 % (2 + q_2)))]) (rest := []) ⟨hx, hb, hml, hown, hts⟩ (c_X7_tell l dC dI cI cZ cM cT H.size hh (ms ++ [(am, aw, av, ax, T2, -1, -1, -1)]) gv tn tb2 κ2 (ms.length : Int) am aw av ax T2 (-1) (-1) (-1) (j / 2) (j % 2) q_20 1 (q_17 % (2 + q_2)) hmo9 hκ2 (by first | assumption | omega | rfl) hμ9 (by first | assumption | omega | rfl) (by first | assumption | omega | rfl) hy3 (by first | assumption | omega | rfl) hnx hE0) (cwV 6 hts (goodIn_of _ (by decide +kernel)) rfl rfl rfl (by decide +kernel) ⟨Nat.le_of_ble_eq_true rfl, Nat.le_of_ble_eq_true rfl⟩) ⟨fun a U g mk q => by obtain ⟨q0, q1, qP, qK, qD⟩ := q; exact ⟨q0, q1, qP, va_K.moved (u := U) (U := U.calling g mk a) (Vm.Alike.refl U.vm) qK, qD⟩, va_recv hK hPc (ci := 6) (q0 := 0) rfl rfl, fun U hU hW => ⟨rfl, by rw [hU], by rw [hU]; exact hPc, va_K.moved hW.alike hK, hDc.weaken (fun _ _ _ _ => trivial)⟩⟩ rfl rfl hl.1 rfl (lv_room (Nat.le_of_ble_eq_true rfl)) dL_machine_135 ⟨Nat.le_of_ble_eq_true rfl, Nat.le_of_ble_eq_true rfl⟩) hS (fun q _ h => hFc q h) hFc (fun r_42 u t H1 locs ht hvm hw hB hz1 hk1 hS => ?_)
            obtain ⟨tb1_43, κ1_44, ms1_45, hz_46, ht_47, hm_48, hP1, hK1, hD1⟩ := hB
            rw [ht] at hP1
            obtain ⟨hP, hD⟩ := va_joinP (wr := []) (rx := []) (pl1 := (pq_WD cI cZ cM cT hh ms1_45 gv tn tb1_43 κ1_44)) hP hD [] [] rfl rfl (by decide) (by decide) hk1 hFc hP1 hD1
            generalize H1 = H at hP hS ⊢
            have hP : va_P (dC, dI) vwCl ([] ++ (pq_WD cI cZ cM cT hh ms1_45 gv tn tb1_43 κ1_44)) H := hP
            have hD : va_D A ([] ++ (pq_WD cI cZ cM cT hh ms1_45 gv tn tb1_43 κ1_44)) := hD
            refine W.widen (k := 4) (n := 31) (Nat.le_of_ble_eq_true rfl) (Nat.le_of_ble_eq_true rfl) ?_
            obtain rfl : r_42 = zi (pq_ce (pq_fl T2 (2 * (j / 2) + (j % 2)).toNat q_20 (1 : Int) (q_17 % (2 + q_2))) (2 * pq_n T2).toNat) := hw
            obtain ⟨T9, hT9e⟩ : ∃ T9, T9 = pq_fl T2 (2 * (j / 2) + j % 2).toNat q_20 1 (q_17 % (2 + q_2)) := ⟨_, rfl⟩
            have hset : (ms ++ [(am, aw, av, ax, T2, -1, -1, -1)]).set (ms.length : Int).toNat (am, aw, av, ax, T9, -1, -1, -1) = ms ++ [(am, aw, av, ax, T9, -1, -1, -1)] := by rw [Int.toNat_natCast, List.set_append, if_neg (Nat.lt_irrefl _), Nat.sub_self]; rfl
            have hm9 := hm_48
            rw [← hT9e, hset] at hm9
            rw [hm9] at hP hD
            have hP : va_P (dC, dI) vwCl ([] ++ (pq_WD cI cZ cM cT hh (ms ++ [(am, aw, av, ax, T9, -1, -1, -1)]) gv tn tb1_43 κ1_44)) H := hP
            have hD : va_D A ([] ++ (pq_WD cI cZ cM cT hh (ms ++ [(am, aw, av, ax, T9, -1, -1, -1)]) gv tn tb1_43 κ1_44)) := hD
            have hT9 : pq_ok T9 := by rw [hT9e]; exact pq_ok_fl hT2.1 (by omega) hy3 (by omega) hnx
            have hE9 : ∀ k : Nat, k < 8 → (j + 1).toNat ≤ k → pq_w T9 k = -1 := by rw [hT9e]; exact pq_fl_E (j := (j + 1).toNat) (fun k hk h => hE2 k hk (by omega)) (by omega)
            refine lv_pop hx hb dL_machine_138 rfl ?_
            refine pz_iinc (lv' := [(6, .int (zi (j + 1))), (8, .int (zi q_17)), (7, .int (b9 >>> ((zi (3 + ((j % 4) * 5))) &&& 31))), (0, .ref hh), (1, .int a9), (2, .int b9), (3, .int (zi f9)), (4, .int (zi (2 + q_2))), (5, .int (zi (ms.length : Int)))]) hx hb dL_machine_139 hl (k := 8) rfl (by decide) rfl (fun ls hl => ?_)
            refine lv_goto (tgt := 20) hx hb dL_machine_142 (by decide) ?_
            exact ih_20 _ _ _ _ ⟨T9, j + 1, κ1_44, tb1_43, rfl, (by first | assumption | omega | rfl), hz_46, (⟨hT9, by rw [hT9e]; exact hT2.2⟩), hE9, (by rw [ht_47, pb_f (fun h => h rfl), htb2, Int.add_zero]), hP, hD, hS, lv_sub hl [3, 4, 5, 6, 7, 8, 0] rfl⟩ (by omega)
          · refine lv_iload hx hb dL_machine_125 (lv_at hl 6 rfl) ?_
            refine lv_goto (tgt := 135) hx hb dL_machine_127 (by decide) ?_
            have hy3 : q_20 = 0 ∨ q_20 = 1 := by have := hq_21; omega
            have hq8 := hq_18
            have hmd1 := Int.emod_nonneg q_17 (show 2 + q_2 ≠ 0 by omega)
            have hmd2 := Int.emod_lt_of_pos q_17 (show 0 < 2 + q_2 by omega)
            have hnx : 0 ≤ 2 + q_2 ∧ 2 + q_2 ≤ pq_n T2 := by omega
            have hE0 : pq_E T2 (2 * (j / 2) + j % 2) := Or.inr (Or.inr (hE2 _ (by omega) (by omega)))
            have hPc := hP.part (cx := []) [] rfl
            have hDc := hD.part (cx := []) [] (by decide) rfl
            have hFc := va_freeP (cx := []) hD hS hA [] rfl
            refine va_calli (va_runV (As := [.int (zi (ms.length : Int)), .int (zi (j / 2)), .int (zi (j % 2)), .int (zi q_20), .int (zi 1), .int (zi (2 + q_2))]) (rest := []) ⟨hx, hb, hml, hown, hts⟩ (c_X7_tell l dC dI cI cZ cM cT H.size hh (ms ++ [(am, aw, av, ax, T2, -1, -1, -1)]) gv tn tb2 κ2 (ms.length : Int) am aw av ax T2 (-1) (-1) (-1) (j / 2) (j % 2) q_20 1 (2 + q_2) hmo9 hκ2 (by first | assumption | omega | rfl) hμ9 (by first | assumption | omega | rfl) (by first | assumption | omega | rfl) hy3 (by first | assumption | omega | rfl) hnx hE0) (cwV 6 hts (goodIn_of _ (by decide +kernel)) rfl rfl rfl (by decide +kernel) ⟨Nat.le_of_ble_eq_true rfl, Nat.le_of_ble_eq_true rfl⟩) ⟨fun a U g mk q => by obtain ⟨q0, q1, qP, qK, qD⟩ := q; exact ⟨q0, q1, qP, va_K.moved (u := U) (U := U.calling g mk a) (Vm.Alike.refl U.vm) qK, qD⟩, va_recv hK hPc (ci := 6) (q0 := 0) rfl rfl, fun U hU hW => ⟨rfl, by rw [hU], by rw [hU]; exact hPc, va_K.moved hW.alike hK, hDc.weaken (fun _ _ _ _ => trivial)⟩⟩ rfl rfl hl.1 rfl (lv_room (Nat.le_of_ble_eq_true rfl)) dL_machine_135 ⟨Nat.le_of_ble_eq_true rfl, Nat.le_of_ble_eq_true rfl⟩) hS (fun q _ h => hFc q h) hFc (fun r_49 u t H1 locs ht hvm hw hB hz1 hk1 hS => ?_)
            obtain ⟨tb1_50, κ1_51, ms1_52, hz_53, ht_54, hm_55, hP1, hK1, hD1⟩ := hB
            rw [ht] at hP1
            obtain ⟨hP, hD⟩ := va_joinP (wr := []) (rx := []) (pl1 := (pq_WD cI cZ cM cT hh ms1_52 gv tn tb1_50 κ1_51)) hP hD [] [] rfl rfl (by decide) (by decide) hk1 hFc hP1 hD1
            generalize H1 = H at hP hS ⊢
            have hP : va_P (dC, dI) vwCl ([] ++ (pq_WD cI cZ cM cT hh ms1_52 gv tn tb1_50 κ1_51)) H := hP
            have hD : va_D A ([] ++ (pq_WD cI cZ cM cT hh ms1_52 gv tn tb1_50 κ1_51)) := hD
            refine W.widen (k := 4) (n := 31) (Nat.le_of_ble_eq_true rfl) (Nat.le_of_ble_eq_true rfl) ?_
            obtain rfl : r_49 = zi (pq_ce (pq_fl T2 (2 * (j / 2) + (j % 2)).toNat q_20 (1 : Int) (2 + q_2)) (2 * pq_n T2).toNat) := hw
            obtain ⟨T9, hT9e⟩ : ∃ T9, T9 = pq_fl T2 (2 * (j / 2) + j % 2).toNat q_20 1 (2 + q_2) := ⟨_, rfl⟩
            have hset : (ms ++ [(am, aw, av, ax, T2, -1, -1, -1)]).set (ms.length : Int).toNat (am, aw, av, ax, T9, -1, -1, -1) = ms ++ [(am, aw, av, ax, T9, -1, -1, -1)] := by rw [Int.toNat_natCast, List.set_append, if_neg (Nat.lt_irrefl _), Nat.sub_self]; rfl
            have hm9 := hm_55
            rw [← hT9e, hset] at hm9
            rw [hm9] at hP hD
            have hP : va_P (dC, dI) vwCl ([] ++ (pq_WD cI cZ cM cT hh (ms ++ [(am, aw, av, ax, T9, -1, -1, -1)]) gv tn tb1_50 κ1_51)) H := hP
            have hD : va_D A ([] ++ (pq_WD cI cZ cM cT hh (ms ++ [(am, aw, av, ax, T9, -1, -1, -1)]) gv tn tb1_50 κ1_51)) := hD
            have hT9 : pq_ok T9 := by rw [hT9e]; exact pq_ok_fl hT2.1 (by omega) hy3 (by omega) hnx
            have hE9 : ∀ k : Nat, k < 8 → (j + 1).toNat ≤ k → pq_w T9 k = -1 := by rw [hT9e]; exact pq_fl_E (j := (j + 1).toNat) (fun k hk h => hE2 k hk (by omega)) (by omega)
            refine lv_pop hx hb dL_machine_138 rfl ?_
            refine pz_iinc (lv' := [(6, .int (zi (j + 1))), (8, .int (zi q_17)), (7, .int (b9 >>> ((zi (3 + ((j % 4) * 5))) &&& 31))), (0, .ref hh), (1, .int a9), (2, .int b9), (3, .int (zi f9)), (4, .int (zi (2 + q_2))), (5, .int (zi (ms.length : Int)))]) hx hb dL_machine_139 hl (k := 8) rfl (by decide) rfl (fun ls hl => ?_)
            refine lv_goto (tgt := 20) hx hb dL_machine_142 (by decide) ?_
            exact ih_20 _ _ _ _ ⟨T9, j + 1, κ1_51, tb1_50, rfl, (by first | assumption | omega | rfl), hz_53, (⟨hT9, by rw [hT9e]; exact hT2.2⟩), hE9, (by rw [ht_54, pb_f (fun h => h rfl), htb2, Int.add_zero]), hP, hD, hS, lv_sub hl [3, 4, 5, 6, 7, 8, 0] rfl⟩ (by omega)
      · refine lv_goto (tgt := 139) hx hb dL_machine_65 (by decide) ?_
        refine pz_iinc (lv' := [(6, .int (zi (j + 1))), (7, .int (b9 >>> ((zi (3 + ((j % 4) * 5))) &&& 31))), (0, .ref hh), (1, .int a9), (2, .int b9), (3, .int (zi f9)), (4, .int (zi (2 + q_2))), (5, .int (zi (ms.length : Int)))]) hx hb dL_machine_139 hl (k := 7) rfl (by decide) rfl (fun ls hl => ?_)
        refine lv_goto (tgt := 20) hx hb dL_machine_142 (by decide) ?_
        exact ih_20 _ _ _ _ ⟨T2, j + 1, κ2, tb2, rfl, (by first | assumption | omega | rfl), hκ2, hT2, (fun k hk h => hE2 k hk (by omega)), htb2, hP, hD, hS, lv_sub hl [2, 3, 4, 5, 6, 7, 0] rfl⟩ (by omega)
    · refine lv_iload_n hx hb dL_machine_35 rfl (lv_at hl 1 rfl) ?_
      refine lv_goto (tgt := 40) hx hb dL_machine_36 (by decide) ?_
      refine lv_iconst (v := zi 3) hx hb dL_machine_40 (by decide) ?_
      refine lv_iload hx hb dL_machine_41 (lv_at hl 6 rfl) ?_
      refine lv_iconst (v := zi 4) hx hb dL_machine_43 (by decide) ?_
      refine pz_irem hx hb (by omega) dL_machine_44 ?_
      refine lv_iconst (v := zi 5) hx hb dL_machine_45 (by decide) ?_
      refine pz_imul hx hb dL_machine_46 ?_
      refine pz_iadd hx hb dL_machine_47 ?_
      refine lv_ishr hx hb dL_machine_48 ?_
      refine lv_istore (lv' := [(7, .int (a9 >>> ((zi (3 + ((j % 4) * 5))) &&& 31))), (0, .ref hh), (1, .int a9), (2, .int b9), (3, .int (zi f9)), (4, .int (zi (2 + q_2))), (5, .int (zi (ms.length : Int))), (6, .int (zi j))]) hx hb dL_machine_49 hl (by decide) rfl (fun ls hl => ?_)
      refine lv_iload hx hb dL_machine_51 (lv_at hl 0 rfl) ?_
      refine lv_iload hx hb dL_machine_53 (lv_at hl 7 rfl) ?_
      refine lv_iadd hx hb dL_machine_55 ?_
      refine lv_bipush (v := zi 9) hx hb dL_machine_56 (by decide) ?_
      have hPc := hP.sub (ws' := []) [] rfl
      have hDc := hD.sub (ws' := []) [] (by decide) rfl
      have hFc := va_free (wc := []) hD hS hA [] rfl
      refine va_calli (va_runS (As := [.int ((a9 >>> ((zi (3 + ((j % 4) * 5))) &&& 31)) + (zi j)), .int (zi 9)]) (rest := []) ⟨hx, hb, hml, hown, hts⟩ (c_L_below l dC dI cI cZ cM cT H.size ((a9 >>> ((zi (3 + ((j % 4) * 5))) &&& 31)) + (zi j)) 9 (by first | assumption | omega | rfl)) (va_cwS 2 hts (goodIn_of _ (by decide +kernel)) rfl rfl rfl (by decide +kernel) ⟨Nat.le_of_ble_eq_true rfl, Nat.le_of_ble_eq_true rfl⟩) ⟨fun a U g mk q => by obtain ⟨q0, q1, qP, qK, qD⟩ := q; exact ⟨q0, q1, qP, va_K.moved (u := U) (U := U.calling g mk a) (Vm.Alike.refl U.vm) qK, qD⟩, fun U hU hW => ⟨rfl, by rw [hU], by rw [hU]; exact hPc, va_K.moved hW.alike hK, hDc.weaken (fun _ _ _ _ => trivial)⟩⟩ rfl rfl hl.1 rfl (lv_room (Nat.le_of_ble_eq_true rfl)) dL_machine_58 ⟨Nat.le_of_ble_eq_true rfl, Nat.le_of_ble_eq_true rfl⟩) hS (fun q _ h => hFc q h) hFc (fun r_56 u t H1 locs ht hvm hw hB hz1 hk1 hS => ?_)
      obtain ⟨hP1, hK1, hD1⟩ := hB
      rw [ht] at hP1
      obtain ⟨hP, hD⟩ := va_joinQ (wr := []) (w1 := []) (pl := (pq_WD cI cZ cM cT hh (ms ++ [(am, aw, av, ax, T2, -1, -1, -1)]) gv tn tb2 κ2)) hP hD [] [] rfl rfl (by decide) (by decide) hk1 hFc hP1 hD1
      generalize H1 = H at hP hS ⊢
      have hP : va_P (dC, dI) vwCl ([] ++ (pq_WD cI cZ cM cT hh (ms ++ [(am, aw, av, ax, T2, -1, -1, -1)]) gv tn tb2 κ2)) H := hP
      have hD : va_D A ([] ++ (pq_WD cI cZ cM cT hh (ms ++ [(am, aw, av, ax, T2, -1, -1, -1)]) gv tn tb2 κ2)) := hD
      refine W.widen (k := 4) (n := 31) (Nat.le_of_ble_eq_true rfl) (Nat.le_of_ble_eq_true rfl) ?_
      obtain ⟨q_57, rfl, hq_58⟩ := hw
      refine lv_iload_n hx hb dL_machine_61 rfl (lv_at hl 4 rfl) ?_
      have hq11 := hq_58
      refine pz_icmp_lt (tgt := 68) hx hb (by omega) dL_machine_62 (by decide) (fun c_59 => ?_) (fun c_59 => ?_)
      · refine lv_iload hx hb dL_machine_68 (lv_at hl 0 rfl) ?_
        refine lv_iconst (v := zi 4) hx hb dL_machine_70 (by decide) ?_
        refine lv_ishr hx hb dL_machine_71 ?_
        refine lv_iconst (v := zi 3) hx hb dL_machine_72 (by decide) ?_
        refine lv_iload hx hb dL_machine_73 (lv_at hl 5 rfl) ?_
        refine pz_imul hx hb dL_machine_75 ?_
        refine lv_iconst (v := zi 1) hx hb dL_machine_76 (by decide) ?_
        refine pz_iadd hx hb dL_machine_77 ?_
        have hPc := hP.sub (ws' := []) [] rfl
        have hDc := hD.sub (ws' := []) [] (by decide) rfl
        have hFc := va_free (wc := []) hD hS hA [] rfl
        refine va_calli (va_runS (As := [.int ((a9 >>> ((zi (3 + ((j % 4) * 5))) &&& 31)) >>> ((zi 4) &&& 31)), .int (zi ((3 * (2 + q_2)) + 1))]) (rest := []) ⟨hx, hb, hml, hown, hts⟩ (c_L_below l dC dI cI cZ cM cT H.size ((a9 >>> ((zi (3 + ((j % 4) * 5))) &&& 31)) >>> ((zi 4) &&& 31)) ((3 * (2 + q_2)) + 1) (by first | assumption | omega | rfl)) (va_cwS 2 hts (goodIn_of _ (by decide +kernel)) rfl rfl rfl (by decide +kernel) ⟨Nat.le_of_ble_eq_true rfl, Nat.le_of_ble_eq_true rfl⟩) ⟨fun a U g mk q => by obtain ⟨q0, q1, qP, qK, qD⟩ := q; exact ⟨q0, q1, qP, va_K.moved (u := U) (U := U.calling g mk a) (Vm.Alike.refl U.vm) qK, qD⟩, fun U hU hW => ⟨rfl, by rw [hU], by rw [hU]; exact hPc, va_K.moved hW.alike hK, hDc.weaken (fun _ _ _ _ => trivial)⟩⟩ rfl rfl hl.1 rfl (lv_room (Nat.le_of_ble_eq_true rfl)) dL_machine_78 ⟨Nat.le_of_ble_eq_true rfl, Nat.le_of_ble_eq_true rfl⟩) hS (fun q _ h => hFc q h) hFc (fun r_60 u t H1 locs ht hvm hw hB hz1 hk1 hS => ?_)
        obtain ⟨hP1, hK1, hD1⟩ := hB
        rw [ht] at hP1
        obtain ⟨hP, hD⟩ := va_joinQ (wr := []) (w1 := []) (pl := (pq_WD cI cZ cM cT hh (ms ++ [(am, aw, av, ax, T2, -1, -1, -1)]) gv tn tb2 κ2)) hP hD [] [] rfl rfl (by decide) (by decide) hk1 hFc hP1 hD1
        generalize H1 = H at hP hS ⊢
        have hP : va_P (dC, dI) vwCl ([] ++ (pq_WD cI cZ cM cT hh (ms ++ [(am, aw, av, ax, T2, -1, -1, -1)]) gv tn tb2 κ2)) H := hP
        have hD : va_D A ([] ++ (pq_WD cI cZ cM cT hh (ms ++ [(am, aw, av, ax, T2, -1, -1, -1)]) gv tn tb2 κ2)) := hD
        refine W.widen (k := 4) (n := 31) (Nat.le_of_ble_eq_true rfl) (Nat.le_of_ble_eq_true rfl) ?_
        obtain ⟨q_61, rfl, hq_62⟩ := hw
        refine lv_istore (lv' := [(8, .int (zi q_61)), (7, .int (a9 >>> ((zi (3 + ((j % 4) * 5))) &&& 31))), (0, .ref hh), (1, .int a9), (2, .int b9), (3, .int (zi f9)), (4, .int (zi (2 + q_2))), (5, .int (zi (ms.length : Int))), (6, .int (zi j))]) hx hb dL_machine_81 hl (by decide) rfl (fun ls hl => ?_)
        have hμ9 : (ms ++ [(am, aw, av, ax, T2, -1, -1, -1)])[(ms.length : Int).toNat]? = some (am, aw, av, ax, T2, -1, -1, -1) := by rw [Int.toNat_natCast, List.getElem?_append_right (Nat.le_refl _), Nat.sub_self]; rfl
        have hmo9 : pq_mo (ms ++ [(am, aw, av, ax, T2, -1, -1, -1)]) := pq_mo_push hms hmL ⟨hT2.1, Or.inl ⟨rfl, rfl, rfl⟩⟩
        have hn9 := hT2.2
        refine lv_aload_n hx hb dL_machine_83 rfl (lv_at hl 2 rfl) ?_
        refine lv_iload hx hb dL_machine_84 (lv_at hl 7 rfl) ?_
        refine lv_iload hx hb dL_machine_86 (lv_at hl 8 rfl) ?_
        refine lv_iconst (v := zi 2) hx hb dL_machine_88 (by decide) ?_
        refine pz_idiv hx hb (by omega) dL_machine_89 ?_
        refine lv_iload hx hb dL_machine_90 (lv_at hl 8 rfl) ?_
        refine lv_iconst (v := zi 2) hx hb dL_machine_92 (by decide) ?_
        refine pz_irem hx hb (by omega) dL_machine_93 ?_
        refine lv_iload hx hb dL_machine_94 (lv_at hl 1 rfl) ?_
        refine lv_iconst (v := zi 2) hx hb dL_machine_96 (by decide) ?_
        have hPc := hP.sub (ws' := []) [] rfl
        have hDc := hD.sub (ws' := []) [] (by decide) rfl
        have hFc := va_free (wc := []) hD hS hA [] rfl
        refine va_calli (va_runS (As := [.int (a9 >>> ((zi (3 + ((j % 4) * 5))) &&& 31)), .int (zi 2)]) (rest := [.int (zi (j % 2)), .int (zi (j / 2)), .int (zi (ms.length : Int)), .ref hh]) ⟨hx, hb, hml, hown, hts⟩ (c_L_below l dC dI cI cZ cM cT H.size (a9 >>> ((zi (3 + ((j % 4) * 5))) &&& 31)) 2 (by first | assumption | omega | rfl)) (va_cwS 2 hts (goodIn_of _ (by decide +kernel)) rfl rfl rfl (by decide +kernel) ⟨Nat.le_of_ble_eq_true rfl, Nat.le_of_ble_eq_true rfl⟩) ⟨fun a U g mk q => by obtain ⟨q0, q1, qP, qK, qD⟩ := q; exact ⟨q0, q1, qP, va_K.moved (u := U) (U := U.calling g mk a) (Vm.Alike.refl U.vm) qK, qD⟩, fun U hU hW => ⟨rfl, by rw [hU], by rw [hU]; exact hPc, va_K.moved hW.alike hK, hDc.weaken (fun _ _ _ _ => trivial)⟩⟩ rfl rfl hl.1 rfl (lv_room (Nat.le_of_ble_eq_true rfl)) dL_machine_97 ⟨Nat.le_of_ble_eq_true rfl, Nat.le_of_ble_eq_true rfl⟩) hS (fun q _ h => hFc q h) hFc (fun r_63 u t H1 locs ht hvm hw hB hz1 hk1 hS => ?_)
        obtain ⟨hP1, hK1, hD1⟩ := hB
        rw [ht] at hP1
        obtain ⟨hP, hD⟩ := va_joinQ (wr := []) (w1 := []) (pl := (pq_WD cI cZ cM cT hh (ms ++ [(am, aw, av, ax, T2, -1, -1, -1)]) gv tn tb2 κ2)) hP hD [] [] rfl rfl (by decide) (by decide) hk1 hFc hP1 hD1
        generalize H1 = H at hP hS ⊢
        have hP : va_P (dC, dI) vwCl ([] ++ (pq_WD cI cZ cM cT hh (ms ++ [(am, aw, av, ax, T2, -1, -1, -1)]) gv tn tb2 κ2)) H := hP
        have hD : va_D A ([] ++ (pq_WD cI cZ cM cT hh (ms ++ [(am, aw, av, ax, T2, -1, -1, -1)]) gv tn tb2 κ2)) := hD
        refine W.widen (k := 4) (n := 31) (Nat.le_of_ble_eq_true rfl) (Nat.le_of_ble_eq_true rfl) ?_
        obtain ⟨q_64, rfl, hq_65⟩ := hw
        refine lv_iload hx hb dL_machine_100 (lv_at hl 1 rfl) ?_
        refine lv_iconst (v := zi 1) hx hb dL_machine_102 (by decide) ?_
        refine lv_ishr hx hb dL_machine_103 ?_
        refine lv_iconst (v := zi 2) hx hb dL_machine_104 (by decide) ?_
        have hPc := hP.sub (ws' := []) [] rfl
        have hDc := hD.sub (ws' := []) [] (by decide) rfl
        have hFc := va_free (wc := []) hD hS hA [] rfl
        refine va_calli (va_runS (As := [.int ((a9 >>> ((zi (3 + ((j % 4) * 5))) &&& 31)) >>> ((zi 1) &&& 31)), .int (zi 2)]) (rest := [.int (zi q_64), .int (zi (j % 2)), .int (zi (j / 2)), .int (zi (ms.length : Int)), .ref hh]) ⟨hx, hb, hml, hown, hts⟩ (c_L_below l dC dI cI cZ cM cT H.size ((a9 >>> ((zi (3 + ((j % 4) * 5))) &&& 31)) >>> ((zi 1) &&& 31)) 2 (by first | assumption | omega | rfl)) (va_cwS 2 hts (goodIn_of _ (by decide +kernel)) rfl rfl rfl (by decide +kernel) ⟨Nat.le_of_ble_eq_true rfl, Nat.le_of_ble_eq_true rfl⟩) ⟨fun a U g mk q => by obtain ⟨q0, q1, qP, qK, qD⟩ := q; exact ⟨q0, q1, qP, va_K.moved (u := U) (U := U.calling g mk a) (Vm.Alike.refl U.vm) qK, qD⟩, fun U hU hW => ⟨rfl, by rw [hU], by rw [hU]; exact hPc, va_K.moved hW.alike hK, hDc.weaken (fun _ _ _ _ => trivial)⟩⟩ rfl rfl hl.1 rfl (lv_room (Nat.le_of_ble_eq_true rfl)) dL_machine_105 ⟨Nat.le_of_ble_eq_true rfl, Nat.le_of_ble_eq_true rfl⟩) hS (fun q _ h => hFc q h) hFc (fun r_66 u t H1 locs ht hvm hw hB hz1 hk1 hS => ?_)
        obtain ⟨hP1, hK1, hD1⟩ := hB
        rw [ht] at hP1
        obtain ⟨hP, hD⟩ := va_joinQ (wr := []) (w1 := []) (pl := (pq_WD cI cZ cM cT hh (ms ++ [(am, aw, av, ax, T2, -1, -1, -1)]) gv tn tb2 κ2)) hP hD [] [] rfl rfl (by decide) (by decide) hk1 hFc hP1 hD1
        generalize H1 = H at hP hS ⊢
        have hP : va_P (dC, dI) vwCl ([] ++ (pq_WD cI cZ cM cT hh (ms ++ [(am, aw, av, ax, T2, -1, -1, -1)]) gv tn tb2 κ2)) H := hP
        have hD : va_D A ([] ++ (pq_WD cI cZ cM cT hh (ms ++ [(am, aw, av, ax, T2, -1, -1, -1)]) gv tn tb2 κ2)) := hD
        refine W.widen (k := 4) (n := 31) (Nat.le_of_ble_eq_true rfl) (Nat.le_of_ble_eq_true rfl) ?_
        obtain ⟨q_67, rfl, hq_68⟩ := hw
        have hq12 := hq_68
        refine pz_if_ne (tgt := 115) hx hb (by omega) dL_machine_108 (by decide) (fun c_69 => ?_) (fun c_69 => ?_)
        · refine lv_iconst (v := zi (-1)) hx hb dL_machine_115 (by decide) ?_
          refine lv_iload hx hb dL_machine_116 (lv_at hl 0 rfl) ?_
          refine lv_iconst (v := zi 3) hx hb dL_machine_118 (by decide) ?_
          refine lv_iload hx hb dL_machine_119 (lv_at hl 6 rfl) ?_
          refine pz_imul hx hb dL_machine_121 ?_
          have hq10 := hq_62
          refine pz_icmp_ne (tgt := 130) hx hb (by omega) dL_machine_122 (by decide) (fun c_70 => ?_) (fun c_70 => ?_)
          · refine lv_iload hx hb dL_machine_130 (lv_at hl 0 rfl) ?_
            refine lv_iload hx hb dL_machine_132 (lv_at hl 6 rfl) ?_
            have hq9 := hq_62
            refine pz_irem hx hb (by omega) dL_machine_134 ?_
            have hy3 : q_64 = 0 ∨ q_64 = 1 := by have := hq_65; omega
            have hq8 := hq_62
            have hmd1 := Int.emod_nonneg q_61 (show 2 + q_2 ≠ 0 by omega)
            have hmd2 := Int.emod_lt_of_pos q_61 (show 0 < 2 + q_2 by omega)
            have hnx : 0 ≤ q_61 % (2 + q_2) ∧ q_61 % (2 + q_2) ≤ pq_n T2 := by omega
            have hE0 : pq_E T2 (2 * (j / 2) + j % 2) := Or.inr (Or.inr (hE2 _ (by omega) (by omega)))
            have hPc := hP.part (cx := []) [] rfl
            have hDc := hD.part (cx := []) [] (by decide) rfl
            have hFc := va_freeP (cx := []) hD hS hA [] rfl
            refine va_calli (va_runV (As := [.int (zi (ms.length : Int)), .int (zi (j / 2)), .int (zi (j % 2)), .int (zi q_64), .int (zi (-1)), .int (zi (q_61 % (2 + q_2)))]) (rest := []) ⟨hx, hb, hml, hown, hts⟩ (c_X7_tell l dC dI cI cZ cM cT H.size hh (ms ++ [(am, aw, av, ax, T2, -1, -1, -1)]) gv tn tb2 κ2 (ms.length : Int) am aw av ax T2 (-1) (-1) (-1) (j / 2) (j % 2) q_64 (-1) (q_61 % (2 + q_2)) hmo9 hκ2 (by first | assumption | omega | rfl) hμ9 (by first | assumption | omega | rfl) (by first | assumption | omega | rfl) hy3 (by first | assumption | omega | rfl) hnx hE0) (cwV 6 hts (goodIn_of _ (by decide +kernel)) rfl rfl rfl (by decide +kernel) ⟨Nat.le_of_ble_eq_true rfl, Nat.le_of_ble_eq_true rfl⟩) ⟨fun a U g mk q => by obtain ⟨q0, q1, qP, qK, qD⟩ := q; exact ⟨q0, q1, qP, va_K.moved (u := U) (U := U.calling g mk a) (Vm.Alike.refl U.vm) qK, qD⟩, va_recv hK hPc (ci := 6) (q0 := 0) rfl rfl, fun U hU hW => ⟨rfl, by rw [hU], by rw [hU]; exact hPc, va_K.moved hW.alike hK, hDc.weaken (fun _ _ _ _ => trivial)⟩⟩ rfl rfl hl.1 rfl (lv_room (Nat.le_of_ble_eq_true rfl)) dL_machine_135 ⟨Nat.le_of_ble_eq_true rfl, Nat.le_of_ble_eq_true rfl⟩) hS (fun q _ h => hFc q h) hFc (fun r_71 u t H1 locs ht hvm hw hB hz1 hk1 hS => ?_)
            obtain ⟨tb1_72, κ1_73, ms1_74, hz_75, ht_76, hm_77, hP1, hK1, hD1⟩ := hB
            rw [ht] at hP1
            obtain ⟨hP, hD⟩ := va_joinP (wr := []) (rx := []) (pl1 := (pq_WD cI cZ cM cT hh ms1_74 gv tn tb1_72 κ1_73)) hP hD [] [] rfl rfl (by decide) (by decide) hk1 hFc hP1 hD1
            generalize H1 = H at hP hS ⊢
            have hP : va_P (dC, dI) vwCl ([] ++ (pq_WD cI cZ cM cT hh ms1_74 gv tn tb1_72 κ1_73)) H := hP
            have hD : va_D A ([] ++ (pq_WD cI cZ cM cT hh ms1_74 gv tn tb1_72 κ1_73)) := hD
            refine W.widen (k := 4) (n := 31) (Nat.le_of_ble_eq_true rfl) (Nat.le_of_ble_eq_true rfl) ?_
            obtain rfl : r_71 = zi (pq_ce (pq_fl T2 (2 * (j / 2) + (j % 2)).toNat q_64 (-1 : Int) (q_61 % (2 + q_2))) (2 * pq_n T2).toNat) := hw
            obtain ⟨T9, hT9e⟩ : ∃ T9, T9 = pq_fl T2 (2 * (j / 2) + j % 2).toNat q_64 (-1) (q_61 % (2 + q_2)) := ⟨_, rfl⟩
            have hset : (ms ++ [(am, aw, av, ax, T2, -1, -1, -1)]).set (ms.length : Int).toNat (am, aw, av, ax, T9, -1, -1, -1) = ms ++ [(am, aw, av, ax, T9, -1, -1, -1)] := by rw [Int.toNat_natCast, List.set_append, if_neg (Nat.lt_irrefl _), Nat.sub_self]; rfl
            have hm9 := hm_77
            rw [← hT9e, hset] at hm9
            rw [hm9] at hP hD
            have hP : va_P (dC, dI) vwCl ([] ++ (pq_WD cI cZ cM cT hh (ms ++ [(am, aw, av, ax, T9, -1, -1, -1)]) gv tn tb1_72 κ1_73)) H := hP
            have hD : va_D A ([] ++ (pq_WD cI cZ cM cT hh (ms ++ [(am, aw, av, ax, T9, -1, -1, -1)]) gv tn tb1_72 κ1_73)) := hD
            have hT9 : pq_ok T9 := by rw [hT9e]; exact pq_ok_fl hT2.1 (by omega) hy3 (by omega) hnx
            have hE9 : ∀ k : Nat, k < 8 → (j + 1).toNat ≤ k → pq_w T9 k = -1 := by rw [hT9e]; exact pq_fl_E (j := (j + 1).toNat) (fun k hk h => hE2 k hk (by omega)) (by omega)
            refine lv_pop hx hb dL_machine_138 rfl ?_
            refine pz_iinc (lv' := [(6, .int (zi (j + 1))), (8, .int (zi q_61)), (7, .int (a9 >>> ((zi (3 + ((j % 4) * 5))) &&& 31))), (0, .ref hh), (1, .int a9), (2, .int b9), (3, .int (zi f9)), (4, .int (zi (2 + q_2))), (5, .int (zi (ms.length : Int)))]) hx hb dL_machine_139 hl (k := 8) rfl (by decide) rfl (fun ls hl => ?_)
            refine lv_goto (tgt := 20) hx hb dL_machine_142 (by decide) ?_
            exact ih_20 _ _ _ _ ⟨T9, j + 1, κ1_73, tb1_72, rfl, (by first | assumption | omega | rfl), hz_75, (⟨hT9, by rw [hT9e]; exact hT2.2⟩), hE9, (by rw [ht_76, pb_f (fun h => h rfl), htb2, Int.add_zero]), hP, hD, hS, lv_sub hl [3, 4, 5, 6, 7, 8, 0] rfl⟩ (by omega)
          · refine lv_iload hx hb dL_machine_125 (lv_at hl 6 rfl) ?_
            refine lv_goto (tgt := 135) hx hb dL_machine_127 (by decide) ?_
            have hy3 : q_64 = 0 ∨ q_64 = 1 := by have := hq_65; omega
            have hq8 := hq_62
            have hmd1 := Int.emod_nonneg q_61 (show 2 + q_2 ≠ 0 by omega)
            have hmd2 := Int.emod_lt_of_pos q_61 (show 0 < 2 + q_2 by omega)
            have hnx : 0 ≤ 2 + q_2 ∧ 2 + q_2 ≤ pq_n T2 := by omega
            have hE0 : pq_E T2 (2 * (j / 2) + j % 2) := Or.inr (Or.inr (hE2 _ (by omega) (by omega)))
            have hPc := hP.part (cx := []) [] rfl
            have hDc := hD.part (cx := []) [] (by decide) rfl
            have hFc := va_freeP (cx := []) hD hS hA [] rfl
            refine va_calli (va_runV (As := [.int (zi (ms.length : Int)), .int (zi (j / 2)), .int (zi (j % 2)), .int (zi q_64), .int (zi (-1)), .int (zi (2 + q_2))]) (rest := []) ⟨hx, hb, hml, hown, hts⟩ (c_X7_tell l dC dI cI cZ cM cT H.size hh (ms ++ [(am, aw, av, ax, T2, -1, -1, -1)]) gv tn tb2 κ2 (ms.length : Int) am aw av ax T2 (-1) (-1) (-1) (j / 2) (j % 2) q_64 (-1) (2 + q_2) hmo9 hκ2 (by first | assumption | omega | rfl) hμ9 (by first | assumption | omega | rfl) (by first | assumption | omega | rfl) hy3 (by first | assumption | omega | rfl) hnx hE0) (cwV 6 hts (goodIn_of _ (by decide +kernel)) rfl rfl rfl (by decide +kernel) ⟨Nat.le_of_ble_eq_true rfl, Nat.le_of_ble_eq_true rfl⟩) ⟨fun a U g mk q => by obtain ⟨q0, q1, qP, qK, qD⟩ := q; exact ⟨q0, q1, qP, va_K.moved (u := U) (U := U.calling g mk a) (Vm.Alike.refl U.vm) qK, qD⟩, va_recv hK hPc (ci := 6) (q0 := 0) rfl rfl, fun U hU hW => ⟨rfl, by rw [hU], by rw [hU]; exact hPc, va_K.moved hW.alike hK, hDc.weaken (fun _ _ _ _ => trivial)⟩⟩ rfl rfl hl.1 rfl (lv_room (Nat.le_of_ble_eq_true rfl)) dL_machine_135 ⟨Nat.le_of_ble_eq_true rfl, Nat.le_of_ble_eq_true rfl⟩) hS (fun q _ h => hFc q h) hFc (fun r_78 u t H1 locs ht hvm hw hB hz1 hk1 hS => ?_)
            obtain ⟨tb1_79, κ1_80, ms1_81, hz_82, ht_83, hm_84, hP1, hK1, hD1⟩ := hB
            rw [ht] at hP1
            obtain ⟨hP, hD⟩ := va_joinP (wr := []) (rx := []) (pl1 := (pq_WD cI cZ cM cT hh ms1_81 gv tn tb1_79 κ1_80)) hP hD [] [] rfl rfl (by decide) (by decide) hk1 hFc hP1 hD1
            generalize H1 = H at hP hS ⊢
            have hP : va_P (dC, dI) vwCl ([] ++ (pq_WD cI cZ cM cT hh ms1_81 gv tn tb1_79 κ1_80)) H := hP
            have hD : va_D A ([] ++ (pq_WD cI cZ cM cT hh ms1_81 gv tn tb1_79 κ1_80)) := hD
            refine W.widen (k := 4) (n := 31) (Nat.le_of_ble_eq_true rfl) (Nat.le_of_ble_eq_true rfl) ?_
            obtain rfl : r_78 = zi (pq_ce (pq_fl T2 (2 * (j / 2) + (j % 2)).toNat q_64 (-1 : Int) (2 + q_2)) (2 * pq_n T2).toNat) := hw
            obtain ⟨T9, hT9e⟩ : ∃ T9, T9 = pq_fl T2 (2 * (j / 2) + j % 2).toNat q_64 (-1) (2 + q_2) := ⟨_, rfl⟩
            have hset : (ms ++ [(am, aw, av, ax, T2, -1, -1, -1)]).set (ms.length : Int).toNat (am, aw, av, ax, T9, -1, -1, -1) = ms ++ [(am, aw, av, ax, T9, -1, -1, -1)] := by rw [Int.toNat_natCast, List.set_append, if_neg (Nat.lt_irrefl _), Nat.sub_self]; rfl
            have hm9 := hm_84
            rw [← hT9e, hset] at hm9
            rw [hm9] at hP hD
            have hP : va_P (dC, dI) vwCl ([] ++ (pq_WD cI cZ cM cT hh (ms ++ [(am, aw, av, ax, T9, -1, -1, -1)]) gv tn tb1_79 κ1_80)) H := hP
            have hD : va_D A ([] ++ (pq_WD cI cZ cM cT hh (ms ++ [(am, aw, av, ax, T9, -1, -1, -1)]) gv tn tb1_79 κ1_80)) := hD
            have hT9 : pq_ok T9 := by rw [hT9e]; exact pq_ok_fl hT2.1 (by omega) hy3 (by omega) hnx
            have hE9 : ∀ k : Nat, k < 8 → (j + 1).toNat ≤ k → pq_w T9 k = -1 := by rw [hT9e]; exact pq_fl_E (j := (j + 1).toNat) (fun k hk h => hE2 k hk (by omega)) (by omega)
            refine lv_pop hx hb dL_machine_138 rfl ?_
            refine pz_iinc (lv' := [(6, .int (zi (j + 1))), (8, .int (zi q_61)), (7, .int (a9 >>> ((zi (3 + ((j % 4) * 5))) &&& 31))), (0, .ref hh), (1, .int a9), (2, .int b9), (3, .int (zi f9)), (4, .int (zi (2 + q_2))), (5, .int (zi (ms.length : Int)))]) hx hb dL_machine_139 hl (k := 8) rfl (by decide) rfl (fun ls hl => ?_)
            refine lv_goto (tgt := 20) hx hb dL_machine_142 (by decide) ?_
            exact ih_20 _ _ _ _ ⟨T9, j + 1, κ1_80, tb1_79, rfl, (by first | assumption | omega | rfl), hz_82, (⟨hT9, by rw [hT9e]; exact hT2.2⟩), hE9, (by rw [ht_83, pb_f (fun h => h rfl), htb2, Int.add_zero]), hP, hD, hS, lv_sub hl [3, 4, 5, 6, 7, 8, 0] rfl⟩ (by omega)
        · refine lv_iconst (v := zi 1) hx hb dL_machine_111 (by decide) ?_
          refine lv_goto (tgt := 116) hx hb dL_machine_112 (by decide) ?_
          refine lv_iload hx hb dL_machine_116 (lv_at hl 0 rfl) ?_
          refine lv_iconst (v := zi 3) hx hb dL_machine_118 (by decide) ?_
          refine lv_iload hx hb dL_machine_119 (lv_at hl 6 rfl) ?_
          refine pz_imul hx hb dL_machine_121 ?_
          have hq10 := hq_62
          refine pz_icmp_ne (tgt := 130) hx hb (by omega) dL_machine_122 (by decide) (fun c_85 => ?_) (fun c_85 => ?_)
          · refine lv_iload hx hb dL_machine_130 (lv_at hl 0 rfl) ?_
            refine lv_iload hx hb dL_machine_132 (lv_at hl 6 rfl) ?_
            have hq9 := hq_62
            refine pz_irem hx hb (by omega) dL_machine_134 ?_
            have hy3 : q_64 = 0 ∨ q_64 = 1 := by have := hq_65; omega
            have hq8 := hq_62
            have hmd1 := Int.emod_nonneg q_61 (show 2 + q_2 ≠ 0 by omega)
            have hmd2 := Int.emod_lt_of_pos q_61 (show 0 < 2 + q_2 by omega)
            have hnx : 0 ≤ q_61 % (2 + q_2) ∧ q_61 % (2 + q_2) ≤ pq_n T2 := by omega
            have hE0 : pq_E T2 (2 * (j / 2) + j % 2) := Or.inr (Or.inr (hE2 _ (by omega) (by omega)))
            have hPc := hP.part (cx := []) [] rfl
            have hDc := hD.part (cx := []) [] (by decide) rfl
            have hFc := va_freeP (cx := []) hD hS hA [] rfl
            refine va_calli (va_runV (As := [.int (zi (ms.length : Int)), .int (zi (j / 2)), .int (zi (j % 2)), .int (zi q_64), .int (zi 1), .int (zi (q_61 % (2 + q_2)))]) (rest := []) ⟨hx, hb, hml, hown, hts⟩ (c_X7_tell l dC dI cI cZ cM cT H.size hh (ms ++ [(am, aw, av, ax, T2, -1, -1, -1)]) gv tn tb2 κ2 (ms.length : Int) am aw av ax T2 (-1) (-1) (-1) (j / 2) (j % 2) q_64 1 (q_61 % (2 + q_2)) hmo9 hκ2 (by first | assumption | omega | rfl) hμ9 (by first | assumption | omega | rfl) (by first | assumption | omega | rfl) hy3 (by first | assumption | omega | rfl) hnx hE0) (cwV 6 hts (goodIn_of _ (by decide +kernel)) rfl rfl rfl (by decide +kernel) ⟨Nat.le_of_ble_eq_true rfl, Nat.le_of_ble_eq_true rfl⟩) ⟨fun a U g mk q => by obtain ⟨q0, q1, qP, qK, qD⟩ := q; exact ⟨q0, q1, qP, va_K.moved (u := U) (U := U.calling g mk a) (Vm.Alike.refl U.vm) qK, qD⟩, va_recv hK hPc (ci := 6) (q0 := 0) rfl rfl, fun U hU hW => ⟨rfl, by rw [hU], by rw [hU]; exact hPc, va_K.moved hW.alike hK, hDc.weaken (fun _ _ _ _ => trivial)⟩⟩ rfl rfl hl.1 rfl (lv_room (Nat.le_of_ble_eq_true rfl)) dL_machine_135 ⟨Nat.le_of_ble_eq_true rfl, Nat.le_of_ble_eq_true rfl⟩) hS (fun q _ h => hFc q h) hFc (fun r_86 u t H1 locs ht hvm hw hB hz1 hk1 hS => ?_)
            obtain ⟨tb1_87, κ1_88, ms1_89, hz_90, ht_91, hm_92, hP1, hK1, hD1⟩ := hB
            rw [ht] at hP1
            obtain ⟨hP, hD⟩ := va_joinP (wr := []) (rx := []) (pl1 := (pq_WD cI cZ cM cT hh ms1_89 gv tn tb1_87 κ1_88)) hP hD [] [] rfl rfl (by decide) (by decide) hk1 hFc hP1 hD1
            generalize H1 = H at hP hS ⊢
            have hP : va_P (dC, dI) vwCl ([] ++ (pq_WD cI cZ cM cT hh ms1_89 gv tn tb1_87 κ1_88)) H := hP
            have hD : va_D A ([] ++ (pq_WD cI cZ cM cT hh ms1_89 gv tn tb1_87 κ1_88)) := hD
            refine W.widen (k := 4) (n := 31) (Nat.le_of_ble_eq_true rfl) (Nat.le_of_ble_eq_true rfl) ?_
            obtain rfl : r_86 = zi (pq_ce (pq_fl T2 (2 * (j / 2) + (j % 2)).toNat q_64 (1 : Int) (q_61 % (2 + q_2))) (2 * pq_n T2).toNat) := hw
            obtain ⟨T9, hT9e⟩ : ∃ T9, T9 = pq_fl T2 (2 * (j / 2) + j % 2).toNat q_64 1 (q_61 % (2 + q_2)) := ⟨_, rfl⟩
            have hset : (ms ++ [(am, aw, av, ax, T2, -1, -1, -1)]).set (ms.length : Int).toNat (am, aw, av, ax, T9, -1, -1, -1) = ms ++ [(am, aw, av, ax, T9, -1, -1, -1)] := by rw [Int.toNat_natCast, List.set_append, if_neg (Nat.lt_irrefl _), Nat.sub_self]; rfl
            have hm9 := hm_92
            rw [← hT9e, hset] at hm9
            rw [hm9] at hP hD
            have hP : va_P (dC, dI) vwCl ([] ++ (pq_WD cI cZ cM cT hh (ms ++ [(am, aw, av, ax, T9, -1, -1, -1)]) gv tn tb1_87 κ1_88)) H := hP
            have hD : va_D A ([] ++ (pq_WD cI cZ cM cT hh (ms ++ [(am, aw, av, ax, T9, -1, -1, -1)]) gv tn tb1_87 κ1_88)) := hD
            have hT9 : pq_ok T9 := by rw [hT9e]; exact pq_ok_fl hT2.1 (by omega) hy3 (by omega) hnx
            have hE9 : ∀ k : Nat, k < 8 → (j + 1).toNat ≤ k → pq_w T9 k = -1 := by rw [hT9e]; exact pq_fl_E (j := (j + 1).toNat) (fun k hk h => hE2 k hk (by omega)) (by omega)
            refine lv_pop hx hb dL_machine_138 rfl ?_
            refine pz_iinc (lv' := [(6, .int (zi (j + 1))), (8, .int (zi q_61)), (7, .int (a9 >>> ((zi (3 + ((j % 4) * 5))) &&& 31))), (0, .ref hh), (1, .int a9), (2, .int b9), (3, .int (zi f9)), (4, .int (zi (2 + q_2))), (5, .int (zi (ms.length : Int)))]) hx hb dL_machine_139 hl (k := 8) rfl (by decide) rfl (fun ls hl => ?_)
            refine lv_goto (tgt := 20) hx hb dL_machine_142 (by decide) ?_
            exact ih_20 _ _ _ _ ⟨T9, j + 1, κ1_88, tb1_87, rfl, (by first | assumption | omega | rfl), hz_90, (⟨hT9, by rw [hT9e]; exact hT2.2⟩), hE9, (by rw [ht_91, pb_f (fun h => h rfl), htb2, Int.add_zero]), hP, hD, hS, lv_sub hl [3, 4, 5, 6, 7, 8, 0] rfl⟩ (by omega)
          · refine lv_iload hx hb dL_machine_125 (lv_at hl 6 rfl) ?_
            refine lv_goto (tgt := 135) hx hb dL_machine_127 (by decide) ?_
            have hy3 : q_64 = 0 ∨ q_64 = 1 := by have := hq_65; omega
            have hq8 := hq_62
            have hmd1 := Int.emod_nonneg q_61 (show 2 + q_2 ≠ 0 by omega)
            have hmd2 := Int.emod_lt_of_pos q_61 (show 0 < 2 + q_2 by omega)
            have hnx : 0 ≤ 2 + q_2 ∧ 2 + q_2 ≤ pq_n T2 := by omega
            have hE0 : pq_E T2 (2 * (j / 2) + j % 2) := Or.inr (Or.inr (hE2 _ (by omega) (by omega)))
            have hPc := hP.part (cx := []) [] rfl
            have hDc := hD.part (cx := []) [] (by decide) rfl
            have hFc := va_freeP (cx := []) hD hS hA [] rfl
            refine va_calli (va_runV (As := [.int (zi (ms.length : Int)), .int (zi (j / 2)), .int (zi (j % 2)), .int (zi q_64), .int (zi 1), .int (zi (2 + q_2))]) (rest := []) ⟨hx, hb, hml, hown, hts⟩ (c_X7_tell l dC dI cI cZ cM cT H.size hh (ms ++ [(am, aw, av, ax, T2, -1, -1, -1)]) gv tn tb2 κ2 (ms.length : Int) am aw av ax T2 (-1) (-1) (-1) (j / 2) (j % 2) q_64 1 (2 + q_2) hmo9 hκ2 (by first | assumption | omega | rfl) hμ9 (by first | assumption | omega | rfl) (by first | assumption | omega | rfl) hy3 (by first | assumption | omega | rfl) hnx hE0) (cwV 6 hts (goodIn_of _ (by decide +kernel)) rfl rfl rfl (by decide +kernel) ⟨Nat.le_of_ble_eq_true rfl, Nat.le_of_ble_eq_true rfl⟩) ⟨fun a U g mk q => by obtain ⟨q0, q1, qP, qK, qD⟩ := q; exact ⟨q0, q1, qP, va_K.moved (u := U) (U := U.calling g mk a) (Vm.Alike.refl U.vm) qK, qD⟩, va_recv hK hPc (ci := 6) (q0 := 0) rfl rfl, fun U hU hW => ⟨rfl, by rw [hU], by rw [hU]; exact hPc, va_K.moved hW.alike hK, hDc.weaken (fun _ _ _ _ => trivial)⟩⟩ rfl rfl hl.1 rfl (lv_room (Nat.le_of_ble_eq_true rfl)) dL_machine_135 ⟨Nat.le_of_ble_eq_true rfl, Nat.le_of_ble_eq_true rfl⟩) hS (fun q _ h => hFc q h) hFc (fun r_93 u t H1 locs ht hvm hw hB hz1 hk1 hS => ?_)
            obtain ⟨tb1_94, κ1_95, ms1_96, hz_97, ht_98, hm_99, hP1, hK1, hD1⟩ := hB
            rw [ht] at hP1
            obtain ⟨hP, hD⟩ := va_joinP (wr := []) (rx := []) (pl1 := (pq_WD cI cZ cM cT hh ms1_96 gv tn tb1_94 κ1_95)) hP hD [] [] rfl rfl (by decide) (by decide) hk1 hFc hP1 hD1
            generalize H1 = H at hP hS ⊢
            have hP : va_P (dC, dI) vwCl ([] ++ (pq_WD cI cZ cM cT hh ms1_96 gv tn tb1_94 κ1_95)) H := hP
            have hD : va_D A ([] ++ (pq_WD cI cZ cM cT hh ms1_96 gv tn tb1_94 κ1_95)) := hD
            refine W.widen (k := 4) (n := 31) (Nat.le_of_ble_eq_true rfl) (Nat.le_of_ble_eq_true rfl) ?_
            obtain rfl : r_93 = zi (pq_ce (pq_fl T2 (2 * (j / 2) + (j % 2)).toNat q_64 (1 : Int) (2 + q_2)) (2 * pq_n T2).toNat) := hw
            obtain ⟨T9, hT9e⟩ : ∃ T9, T9 = pq_fl T2 (2 * (j / 2) + j % 2).toNat q_64 1 (2 + q_2) := ⟨_, rfl⟩
            have hset : (ms ++ [(am, aw, av, ax, T2, -1, -1, -1)]).set (ms.length : Int).toNat (am, aw, av, ax, T9, -1, -1, -1) = ms ++ [(am, aw, av, ax, T9, -1, -1, -1)] := by rw [Int.toNat_natCast, List.set_append, if_neg (Nat.lt_irrefl _), Nat.sub_self]; rfl
            have hm9 := hm_99
            rw [← hT9e, hset] at hm9
            rw [hm9] at hP hD
            have hP : va_P (dC, dI) vwCl ([] ++ (pq_WD cI cZ cM cT hh (ms ++ [(am, aw, av, ax, T9, -1, -1, -1)]) gv tn tb1_94 κ1_95)) H := hP
            have hD : va_D A ([] ++ (pq_WD cI cZ cM cT hh (ms ++ [(am, aw, av, ax, T9, -1, -1, -1)]) gv tn tb1_94 κ1_95)) := hD
            have hT9 : pq_ok T9 := by rw [hT9e]; exact pq_ok_fl hT2.1 (by omega) hy3 (by omega) hnx
            have hE9 : ∀ k : Nat, k < 8 → (j + 1).toNat ≤ k → pq_w T9 k = -1 := by rw [hT9e]; exact pq_fl_E (j := (j + 1).toNat) (fun k hk h => hE2 k hk (by omega)) (by omega)
            refine lv_pop hx hb dL_machine_138 rfl ?_
            refine pz_iinc (lv' := [(6, .int (zi (j + 1))), (8, .int (zi q_61)), (7, .int (a9 >>> ((zi (3 + ((j % 4) * 5))) &&& 31))), (0, .ref hh), (1, .int a9), (2, .int b9), (3, .int (zi f9)), (4, .int (zi (2 + q_2))), (5, .int (zi (ms.length : Int)))]) hx hb dL_machine_139 hl (k := 8) rfl (by decide) rfl (fun ls hl => ?_)
            refine lv_goto (tgt := 20) hx hb dL_machine_142 (by decide) ?_
            exact ih_20 _ _ _ _ ⟨T9, j + 1, κ1_95, tb1_94, rfl, (by first | assumption | omega | rfl), hz_97, (⟨hT9, by rw [hT9e]; exact hT2.2⟩), hE9, (by rw [ht_98, pb_f (fun h => h rfl), htb2, Int.add_zero]), hP, hD, hS, lv_sub hl [3, 4, 5, 6, 7, 8, 0] rfl⟩ (by omega)
      · refine lv_goto (tgt := 139) hx hb dL_machine_65 (by decide) ?_
        refine pz_iinc (lv' := [(6, .int (zi (j + 1))), (7, .int (a9 >>> ((zi (3 + ((j % 4) * 5))) &&& 31))), (0, .ref hh), (1, .int a9), (2, .int b9), (3, .int (zi f9)), (4, .int (zi (2 + q_2))), (5, .int (zi (ms.length : Int)))]) hx hb dL_machine_139 hl (k := 7) rfl (by decide) rfl (fun ls hl => ?_)
        refine lv_goto (tgt := 20) hx hb dL_machine_142 (by decide) ?_
        exact ih_20 _ _ _ _ ⟨T2, j + 1, κ2, tb2, rfl, (by first | assumption | omega | rfl), hκ2, hT2, (fun k hk h => hE2 k hk (by omega)), htb2, hP, hD, hS, lv_sub hl [2, 3, 4, 5, 6, 7, 0] rfl⟩ (by omega)
