/-! p26: all proofs again -/
/-- what is kept of the machines while all is doubted, up to the kind j -/
def pq_k2 (ms ms2 : List pq_M) (j : Int) : Prop := (pq_mo ms2 ∧ ms2.length = ms.length) ∧ ∀ (t : Nat) (μ : pq_M), ms2[t]? = some μ → (∃ ν : pq_M, ms[t]? = some ν ∧ ν.2.2.2.2.1 = μ.2.2.2.2.1) ∧ (μ.2.2.2.2.2.1 = -1 ∨ j ≤ μ.2.2.2.2.2.1)
theorem pq_k2_0 {ms : List pq_M} (hm : pq_mo ms) : pq_k2 ms ms 0 := ⟨⟨hm, rfl⟩, fun t μ h => ⟨⟨μ, h, rfl⟩, by
  rcases (pq_mo_at hm h).2 with ⟨q, -⟩ | q
  · exact Or.inl q
  · exact Or.inr (pq_cert_k q).1.1⟩⟩
theorem pq_map_mo {ms : List pq_M} (hm : pq_mo ms) (y : Int) : pq_mo (ms.map (pq_op y)) := ⟨by rw [List.length_map]; exact hm.1, fun ν hν => by
  obtain ⟨μ, h1, h2⟩ := List.mem_map.mp hν
  rw [← h2]
  exact pq_op_ok (hm.2 μ h1)⟩
theorem pq_k2_1 {ms ms2 : List pq_M} {j : Int} (h : pq_k2 ms ms2 j) : pq_k2 ms (ms2.map (pq_op j)) (j + 1) := by
  refine ⟨⟨pq_map_mo h.1.1 j, by rw [List.length_map]; exact h.1.2⟩, fun t μ hμ => ?_⟩
  rw [List.getElem?_map] at hμ
  cases e : ms2[t]? with
  | none => rw [e] at hμ; simp at hμ
  | some ν =>
    rw [e] at hμ
    have hμ : pq_op j ν = μ := Option.some.inj hμ
    obtain ⟨⟨ξ, h1, h2⟩, h3⟩ := h.2 t ν e
    rw [← hμ]
    unfold pq_op
    by_cases q : ν.2.2.2.2.2.1 = j
    · rw [if_pos q]
      exact ⟨⟨ξ, h1, h2⟩, Or.inl rfl⟩
    · rw [if_neg q]
      exact ⟨⟨ξ, h1, h2⟩, h3.elim Or.inl (fun z => Or.inr (by omega))⟩
/-- what is kept while the proofs are given again, from the machine j on -/
def pq_k3 (ms ms3 : List pq_M) (j : Int) : Prop := (pq_mo ms3 ∧ ms3.length = ms.length) ∧ ∀ (t : Nat) (μ : pq_M), j ≤ (t : Int) → ms3[t]? = some μ → (∃ ν : pq_M, ms[t]? = some ν ∧ ν.2.2.2.2.1 = μ.2.2.2.2.1) ∧ μ.2.2.2.2.2.1 = -1
theorem pq_k3_0 {ms ms2 : List pq_M} (h : pq_k2 ms ms2 4) : pq_k3 ms ms2 0 := ⟨h.1, fun t μ _ hμ => ⟨(h.2 t μ hμ).1, by
  rcases (h.2 t μ hμ).2 with q | q
  · exact q
  · rcases (pq_mo_at h.1.1 hμ).2 with ⟨z, -⟩ | z
    · exact z
    · have := (pq_cert_k z).1.2
      omega⟩⟩
theorem pq_k3_s {ms ms3 : List pq_M} {j : Int} (h : pq_k3 ms ms3 j) : pq_k3 ms ms3 (j + 1) := ⟨h.1, fun t μ ht hμ => h.2 t μ (by omega) hμ⟩
theorem pq_k3_1 {ms ms3 : List pq_M} {j : Int} (hj : 0 ≤ j) (h : pq_k3 ms ms3 j) {ν : pq_M} (hν : pq_mok ν) : pq_k3 ms (ms3.set j.toNat ν) (j + 1) := ⟨⟨pq_mo_set h.1.1 hν, by rw [List.length_set]; exact h.1.2⟩, fun t μ ht hμ => by
  rw [List.getElem?_set_ne (by omega)] at hμ
  exact h.2 t μ (by omega) hμ⟩
/-- the numbers of a certificate that is one are in their range -/
theorem pq_cert_ic {T : pq_T} {k a b : Int} (h : pq_cert T k a b) : pq_ic k a b := by
  unfold pq_ic
  rcases h with ⟨h1, h2, h3, -⟩ | ⟨h1, h2, h3, -⟩ | ⟨h1, h2, h3, -⟩ | ⟨h1, h2, h3, -⟩ <;> omega
def zs_c_L_areStanding : List Cond := .code yL_areStanding cL_areStanding 6 (some .boolean) :: (([.code yX7_many cX7_many 2 (some .int), .code yX7_isWithin cX7_isWithin 3 (some .boolean), .methodLink RX7 49 yX7_isWithin, .static yX7_isWithin, .initialized RX7, .code yX7_require cX7_require 1 none, .methodLink RX7 53 yX7_require, .static yX7_require, .fieldLink RX7 148 "Haltingale" "machineCount" "I", .code yX7_countOfKind cX7_countOfKind 4 (some .int), .code yX7_find cX7_find 3 (some (.object "Haltingale$Machine")), .fieldLink RX7 11 "Haltingale" "machines" "[LHaltingale$Machine;", .methodLink RX7 67 yX7_find, .instanceMethod yX7_find, .selects RX7 yX7_find yX7_find, .fieldLink RX7 151 "Haltingale$Machine" "kind" "I", .methodLink RX7 252 yX7_countOfKind, .instanceMethod yX7_countOfKind, .selects RX7 yX7_countOfKind yX7_countOfKind, .fieldLink RX7 122 "Haltingale" "tagCount" "I", .fieldLink RX7 136 "Haltingale" "givenCount" "I", .fieldLink RX7 142 "Haltingale" "takenCount" "I", .fieldLink RX7 255 "Haltingale" "takenBackCount" "I", .code yX7_countEmptyCells cX7_countEmptyCells 3 (some .int), .code yX3_countEmpty cX3_countEmpty 3 (some .int), .code yX3_countCells cX3_countCells 1 (some .int), .fieldLink RX3 9 "Haltingale$Machine" "states" "I", .methodLink RX3 42 yX3_countCells, .instanceMethod yX3_countCells, .initialized RX3, .selects RX3 yX3_countCells yX3_countCells, .code yX3_isEmpty cX3_isEmpty 2 (some .boolean), .fieldLink RX3 15 "Haltingale$Machine" "writes" "[I", .methodLink RX3 34 yX3_isEmpty, .instanceMethod yX3_isEmpty, .selects RX3 yX3_isEmpty yX3_isEmpty, .methodLink RX7 98 yX3_countEmpty, .instanceMethod yX3_countEmpty, .selects RX3 yX3_countEmpty yX3_countEmpty, .methodLink RX7 258 yX7_countEmptyCells, .instanceMethod yX7_countEmptyCells, .selects RX7 yX7_countEmptyCells yX7_countEmptyCells, .methodLink RL 33 yX7_many, .instanceMethod yX7_many, .selects RX7 yX7_many yX7_many, .arrayClass .int, .code yX7_prove cX7_prove 6 (some .boolean), .code yX7_isCertificate cX7_isCertificate 3 (some .boolean), .methodLink RX7 130 yX7_isCertificate, .static yX7_isCertificate, .code yX7_requireOpen cX7_requireOpen 1 none, .methodLink RX7 133 yX7_requireOpen, .static yX7_requireOpen, .code yX7_isTaken cX7_isTaken 5 (some .boolean), .fieldLink RX7 24 "Haltingale" "walk" "LHaltingale$Walk;", .code yX6_run cX6_run 4 none, .code yX6_begin cX6_begin 2 none, .fieldLink RX6 15 "Haltingale$Walk" "least" "I", .fieldLink RX6 19 "Haltingale$Walk" "greatest" "I", .fieldLink RX6 26 "Haltingale$Walk" "done" "I", .fieldLink RX6 29 "Haltingale$Walk" "state" "I", .fieldLink RX6 32 "Haltingale$Walk" "place" "I", .code yX6_put cX6_put 3 none, .fieldLink RX6 9 "Haltingale$Walk" "tape" "[I", .methodLink RX6 22 yX6_put, .instanceMethod yX6_put, .initialized RX6, .selects RX6 yX6_put yX6_put, .methodLink RX6 35 yX6_begin, .instanceMethod yX6_begin, .selects RX6 yX6_begin yX6_begin, .code yX6_step cX6_step 3 (some .boolean), .code yX6_read cX6_read 2 (some .int), .methodLink RX6 42 yX6_read, .instanceMethod yX6_read, .selects RX6 yX6_read yX6_read, .code yX6_hasStopped cX6_hasStopped 2 (some .boolean), .fieldLink RX6 73 "Haltingale$Machine" "states" "I", .methodLink RX6 46 yX6_hasStopped, .instanceMethod yX6_hasStopped, .selects RX6 yX6_hasStopped yX6_hasStopped, .methodLink RX6 49 yX3_isEmpty, .code yX3_writeOf cX3_writeOf 2 (some .int), .methodLink RX6 55 yX3_writeOf, .instanceMethod yX3_writeOf, .selects RX3 yX3_writeOf yX3_writeOf, .code yX3_moveOf cX3_moveOf 2 (some .int), .fieldLink RX3 19 "Haltingale$Machine" "moves" "[I", .methodLink RX6 58 yX3_moveOf, .instanceMethod yX3_moveOf, .selects RX3 yX3_moveOf yX3_moveOf, .code yX3_nextOf cX3_nextOf 2 (some .int), .fieldLink RX3 22 "Haltingale$Machine" "nexts" "[I", .methodLink RX6 61 yX3_nextOf, .instanceMethod yX3_nextOf, .selects RX3 yX3_nextOf yX3_nextOf, .methodLink RX6 64 Lib.Math.min.name, .static Lib.Math.min.name, .initialized "java/lang/Math", .code Lib.Math.min.name Lib.Math.min.code 2 (some .int), .methodLink RX6 70 Lib.Math.max.name, .static Lib.Math.max.name, .code Lib.Math.max.name Lib.Math.max.code 2 (some .int), .methodLink RX6 38 yX6_step, .instanceMethod yX6_step, .selects RX6 yX6_step yX6_step, .methodLink RX7 154 yX6_run, .instanceMethod yX6_run, .selects RX6 yX6_run yX6_run, .fieldLink RX7 161 "Haltingale$Walk" "done" "I", .methodLink RX7 158 yX6_hasStopped, .fieldLink RX7 31 "Haltingale" "cycles" "LHaltingale$Cycles;", .code yX1_isCycle cX1_isCycle 5 (some .boolean), .code yX1_standBehind cX1_standBehind 3 (some .boolean), .fieldLink RX1 12 "Haltingale$Cycles" "early" "LHaltingale$Walk;", .methodLink RX1 33 yX6_run, .fieldLink RX1 18 "Haltingale$Cycles" "late" "LHaltingale$Walk;", .fieldLink RX1 37 "Haltingale$Walk" "place" "I", .fieldLink RX1 41 "Haltingale$Cycles" "least" "I", .fieldLink RX1 44 "Haltingale$Cycles" "greatest" "I", .fieldLink RX1 47 "Haltingale$Walk" "done" "I", .methodLink RX1 21 yX1_standBehind, .instanceMethod yX1_standBehind, .initialized RX1, .selects RX1 yX1_standBehind yX1_standBehind, .code yX1_repeats cX1_repeats 5 (some .boolean), .fieldLink RX1 62 "Haltingale$Walk" "state" "I", .fieldLink RX1 65 "Haltingale$Walk" "least" "I", .fieldLink RX1 66 "Haltingale$Walk" "greatest" "I", .methodLink RX1 67 yX6_read, .methodLink RX1 29 yX1_repeats, .instanceMethod yX1_repeats, .selects RX1 yX1_repeats yX1_repeats, .code yX1_goFurther cX1_goFurther 2 (some .boolean), .methodLink RX1 50 yX6_step, .methodLink RX1 53 Lib.Math.min.name, .methodLink RX1 59 Lib.Math.max.name, .methodLink RX1 25 yX1_goFurther, .instanceMethod yX1_goFurther, .selects RX1 yX1_goFurther yX1_goFurther, .methodLink RX7 310 yX1_isCycle, .instanceMethod yX1_isCycle, .selects RX1 yX1_isCycle yX1_isCycle, .code yX7_isBack cX7_isBack 4 (some .boolean), .fieldLink RX7 38 "Haltingale" "back" "LHaltingale$Back;", .code yX0_emptyDepth cX0_emptyDepth 3 (some .int), .code yX0_takeEnds cX0_takeEnds 3 none, .fieldLink RX0 12 "Haltingale$Back" "rows" "LHaltingale$Rows;", .fieldLink RX0 29 "Haltingale$Rows" "count" "I", .methodLink RX0 33 yX3_countCells, .code yX3_isEnd cX3_isEnd 2 (some .boolean), .methodLink RX3 38 yX3_nextOf, .methodLink RX0 39 yX3_isEnd, .instanceMethod yX3_isEnd, .selects RX3 yX3_isEnd yX3_isEnd, .code yX4_add cX4_add 6 (some .boolean), .fieldLink RX4 24 "Haltingale$Rows" "count" "I", .code yX4_bitOf cX4_bitOf 1 (some .int), .methodLink RX4 28 yX4_bitOf, .static yX4_bitOf, .initialized RX4, .fieldLink RX4 9 "Haltingale$Rows" "states" "[I", .fieldLink RX4 15 "Haltingale$Rows" "places" "[I", .fieldLink RX4 18 "Haltingale$Rows" "known" "[I", .fieldLink RX4 21 "Haltingale$Rows" "ones" "[I", .methodLink RX0 43 yX4_add, .instanceMethod yX4_add, .selects RX4 yX4_add yX4_add, .methodLink RX0 21 yX0_takeEnds, .instanceMethod yX0_takeEnds, .initialized RX0, .selects RX0 yX0_takeEnds yX0_takeEnds, .code yX0_goBack cX0_goBack 5 (some .boolean), .fieldLink RX0 18 "Haltingale$Back" "spare" "LHaltingale$Rows;", .code yX0_canLead cX0_canLead 6 (some .boolean), .methodLink RX0 65 yX3_isEmpty, .methodLink RX0 68 yX3_nextOf, .fieldLink RX0 71 "Haltingale$Rows" "states" "[I", .fieldLink RX0 51 "Haltingale$Rows" "places" "[I", .methodLink RX0 55 yX3_moveOf, .methodLink RX0 74 yX4_bitOf, .fieldLink RX0 62 "Haltingale$Rows" "ones" "[I", .fieldLink RX0 59 "Haltingale$Rows" "known" "[I", .methodLink RX0 77 yX3_writeOf, .methodLink RX0 47 yX0_canLead, .instanceMethod yX0_canLead, .selects RX0 yX0_canLead yX0_canLead, .methodLink RX0 25 yX0_goBack, .instanceMethod yX0_goBack, .selects RX0 yX0_goBack yX0_goBack, .methodLink RX7 320 yX0_emptyDepth, .instanceMethod yX0_emptyDepth, .selects RX0 yX0_emptyDepth yX0_emptyDepth, .code yX7_goesOnFor cX7_goesOnFor 3 (some .boolean), .methodLink RX7 323 yX7_goesOnFor, .instanceMethod yX7_goesOnFor, .selects RX7 yX7_goesOnFor yX7_goesOnFor, .methodLink RX7 314 yX7_isBack, .instanceMethod yX7_isBack, .selects RX7 yX7_isBack yX7_isBack, .fieldLink RX7 45 "Haltingale" "gram" "LHaltingale$Gram;", .code yX2_isClosed cX2_isClosed 5 (some .boolean), .code yX2_clear cX2_clear 3 none, .fieldLink RX2 45 "Haltingale$Gram" "width" "I", .fieldLink RX2 38 "Haltingale$Gram" "count" "I", .fieldLink RX2 19 "Haltingale$Gram" "lefts" "[Z", .code yX2_addRow cX2_addRow 3 none, .fieldLink RX2 34 "Haltingale$Gram" "isNew" "Z", .methodLink RX2 48 yX2_addRow, .instanceMethod yX2_addRow, .initialized RX2, .selects RX2 yX2_addRow yX2_addRow, .fieldLink RX2 22 "Haltingale$Gram" "rights" "[Z", .code yX2_addWindow cX2_addWindow 5 none, .fieldLink RX2 9 "Haltingale$Gram" "isFound" "[Z", .fieldLink RX2 15 "Haltingale$Gram" "found" "[I", .methodLink RX2 52 yX2_addWindow, .instanceMethod yX2_addWindow, .selects RX2 yX2_addWindow yX2_addWindow, .methodLink RX2 29 yX2_clear, .instanceMethod yX2_clear, .selects RX2 yX2_clear yX2_clear, .constant RX2 33 (1000000), .code yX2_spread cX2_spread 13 (some .boolean), .methodLink RX2 56 yX3_isEnd, .methodLink RX2 62 yX3_moveOf, .methodLink RX2 66 yX3_nextOf, .methodLink RX2 69 yX3_writeOf, .code yX2_hasRow cX2_hasRow 3 (some .boolean), .methodLink RX2 72 yX2_hasRow, .instanceMethod yX2_hasRow, .selects RX2 yX2_hasRow yX2_hasRow, .methodLink RX2 42 yX2_spread, .instanceMethod yX2_spread, .selects RX2 yX2_spread yX2_spread, .methodLink RX7 317 yX2_isClosed, .instanceMethod yX2_isClosed, .selects RX2 yX2_isClosed yX2_isClosed, .methodLink RX7 139 yX7_isTaken, .instanceMethod yX7_isTaken, .selects RX7 yX7_isTaken yX7_isTaken, .code yX3_settle cX3_settle 4 none, .fieldLink RX3 25 "Haltingale$Machine" "kind" "I", .fieldLink RX3 28 "Haltingale$Machine" "a" "I", .fieldLink RX3 31 "Haltingale$Machine" "b" "I", .methodLink RX7 145 yX3_settle, .instanceMethod yX3_settle, .selects RX3 yX3_settle yX3_settle, .methodLink RL 74 yX7_prove, .instanceMethod yX7_prove, .selects RX7 yX7_prove yX7_prove, .code yX7_doubt cX7_doubt 5 (some .int), .code yX7_takeBack cX7_takeBack 2 (some .boolean), .methodLink RX7 94 yX7_takeBack, .instanceMethod yX7_takeBack, .selects RX7 yX7_takeBack yX7_takeBack, .methodLink RL 46 yX7_doubt, .instanceMethod yX7_doubt, .selects RX7 yX7_doubt yX7_doubt, .code yX7_ofMachine cX7_ofMachine 4 (some .int), .fieldLink RX7 107 "Haltingale$Machine" "states" "I", .fieldLink RX7 194 "Haltingale$Machine" "a" "I", .fieldLink RX7 197 "Haltingale$Machine" "b" "I", .code yX7_countWays cX7_countWays 2 (some .int), .code yX6_isHanging cX6_isHanging 2 (some .boolean), .code yX6_metCell cX6_metCell 1 (some .int), .methodLink RX6 76 yX6_metCell, .instanceMethod yX6_metCell, .selects RX6 yX6_metCell yX6_metCell, .methodLink RX7 326 yX6_isHanging, .instanceMethod yX6_isHanging, .selects RX6 yX6_isHanging yX6_isHanging, .code yX3_countFillings cX3_countFillings 3 (some .int), .methodLink RX3 55 Lib.Math.min.name, .methodLink RX3 46 yX3_isEnd, .methodLink RX3 49 Lib.Math.max.name, .methodLink RX7 329 yX3_countFillings, .instanceMethod yX3_countFillings, .selects RX3 yX3_countFillings yX3_countFillings, .methodLink RX7 104 yX7_countWays, .instanceMethod yX7_countWays, .selects RX7 yX7_countWays yX7_countWays, .code yX7_asItStops cX7_asItStops 3 (some .int), .code yX6_countOnes cX6_countOnes 3 (some .int), .methodLink RX7 209 yX6_countOnes, .instanceMethod yX6_countOnes, .selects RX6 yX6_countOnes yX6_countOnes, .fieldLink RX7 206 "Haltingale$Walk" "place" "I", .methodLink RX7 332 Lib.Math.abs.name, .static Lib.Math.abs.name, .code Lib.Math.abs.name Lib.Math.abs.code 1 (some .int), .methodLink RX7 200 yX7_asItStops, .instanceMethod yX7_asItStops, .selects RX7 yX7_asItStops yX7_asItStops, .methodLink RL 36 yX7_ofMachine, .instanceMethod yX7_ofMachine, .selects RX7 yX7_ofMachine yX7_ofMachine] : List Cond) ++ wsX70 ++ wsX30 ++ wsX60 ++ wsX10 ++ wsX00 ++ wsX40 ++ wsX20)
set_option maxHeartbeats 4000000 in
set_option maxRecDepth 100000 in
theorem c_L_areStanding (l : Launch) (dC : Nat → ClassId) (dI : Nat → Nat → Nat) (cI cZ cM cT : ClassId) (sz : Nat) (hh : Nat) (ms : List pq_M) (gv : Int) (tn : Int) (tb : Int) (κ : pq_S) (hms : pq_mo ms) (hκ : pq_Sok κ) : Met l yL_areStanding zs_c_L_areStanding ({ frames := 7, cells := 3, slots := 36, locals := 164 }) (va_Pc [.ref hh] (fun U => U.heap.size = sz ∧ va_P (dC, dI) vwCl ([] ++ (pq_WD cI cZ cM cT hh ms gv tn tb κ)) U.heap ∧ va_K (dC, dI) vwCl (zT4 cI cZ cM cT) U ∧ va_D (fun _ => True) ([] ++ (pq_WD cI cZ cM cT hh ms gv tn tb κ)))) (va_Qi (fun (r : Int32) (_ : Unit) => r = zi 1) (fun _ t => ∃ (κ1 : pq_S) (ms1 : List pq_M) (gv1 : Int) (tn1 : Int) (tb1 : Int), (pq_Sok κ1) ∧ va_P (dC, dI) vwCl ([] ++ (pq_WD cI cZ cM cT hh ms1 gv1 tn1 tb1 κ1)) t.heap ∧ va_K (dC, dI) vwCl (zT4 cI cZ cM cT) t ∧ va_D (va_A ([] ++ (pq_WD cI cZ cM cT hh ms gv tn tb κ)) sz) ([] ++ (pq_WD cI cZ cM cT hh ms1 gv1 tn1 tb1 κ1))) (va_A ([] ++ (pq_WD cI cZ cM cT hh ms gv tn tb κ)) sz)) 3 36 (va_A ([] ++ (pq_WD cI cZ cM cT hh ms gv tn tb κ)) sz) := by
  refine Met.ofW (cc := cL_areStanding) (maxL := 6) (ret := (some .boolean)) (by decide) rfl ?_
  intro p e s m args below meth c s₁ B hml hv
  obtain ⟨rfl, hsz, hP, hK, hD0⟩ := hv
  have hx := B.exec
  have hb := B.bytes
  have hr := B.returns
  have hts := atoms_spec (ws := zs_c_L_areStanding) B.pre
  have hown : s.vm.findClass RL = some m.cls := findClass_of_methodNamed B.named
  have hlocks := B.notSynchronized
  subst hsz
  have hD := hD0.self (sz := s.heap.size)
  generalize hAe : va_A ([] ++ (pq_WD cI cZ cM cT hh ms gv tn tb κ)) s.heap.size = A at hD ⊢
  have hA : ∀ q : Nat, s.heap.size ≤ q → A q := fun q h => by rw [← hAe]; exact Or.inr h
  have hS : va_S A s.heap s.heap [] := va_S.rf
  have hl := lv_entry ([.ref hh]) (n := 6) (Nat.le_of_ble_eq_true rfl)
  rw [lg_entry_eq]
  generalize (lg_sl ([.ref hh]) ++ List.replicate (6 - (lg_sl ([.ref hh])).length) Slot.unset).toArray = ls at hl ⊢
  have hl : lv_has ls 6 [(0, .ref hh)] := hl
  have hml12 := hms.1
  refine lv_aload_n hx hb dL_areStanding_0 rfl (lv_at hl 0 rfl) ?_
  refine lv_iconst (v := zi 0) hx hb dL_areStanding_1 (by decide) ?_
  have hPc := hP.part (cx := []) [] rfl
  have hDc := hD.part (cx := []) [] (by decide) rfl
  have hFc := va_freeP (cx := []) hD hS hA [] rfl
  refine va_calli (va_runV (As := [.int (zi 0)]) (rest := []) ⟨hx, hb, hml, hown, hts⟩ (c_X7_many l dC dI cI cZ cM cT s.heap.size hh ms gv tn tb κ 0 (by first | assumption | omega | rfl) (by first | assumption | omega | rfl) (by first | assumption | omega | rfl)) (cwV 1 hts (goodIn_of _ (by decide +kernel)) rfl rfl rfl (by decide +kernel) ⟨Nat.le_of_ble_eq_true rfl, Nat.le_of_ble_eq_true rfl⟩) ⟨fun a U g mk q => by obtain ⟨q0, q1, qP, qK, qD⟩ := q; exact ⟨q0, q1, qP, va_K.moved (u := U) (U := U.calling g mk a) (Vm.Alike.refl U.vm) qK, qD⟩, va_recv hK hPc (ci := 6) (q0 := 0) rfl rfl, fun U hU hW => ⟨rfl, by rw [hU], by rw [hU]; exact hPc, va_K.moved hW.alike hK, hDc.weaken (fun _ _ _ _ => trivial)⟩⟩ rfl rfl hl.1 rfl (lv_room (Nat.le_of_ble_eq_true rfl)) dL_areStanding_2 ⟨Nat.le_of_ble_eq_true rfl, Nat.le_of_ble_eq_true rfl⟩) hS (fun q _ h => hFc q h) hFc (fun r_1 u t H1 locs ht hvm hw hB hz1 hk1 hS => ?_)
  obtain ⟨hP1, hK1, hD1⟩ := hB
  rw [ht] at hP1
  obtain ⟨hP, hD⟩ := va_joinP (wr := []) (rx := []) (pl1 := (pq_WD cI cZ cM cT hh ms gv tn tb κ)) hP hD [] [] rfl rfl (by decide) (by decide) hk1 hFc hP1 hD1
  generalize H1 = H at hP hS ⊢
  have hP : va_P (dC, dI) vwCl ([] ++ (pq_WD cI cZ cM cT hh ms gv tn tb κ)) H := hP
  have hD : va_D A ([] ++ (pq_WD cI cZ cM cT hh ms gv tn tb κ)) := hD
  refine W.widen (k := 0) (n := 0) (Nat.le_of_ble_eq_true rfl) (Nat.le_of_ble_eq_true rfl) ?_
  obtain rfl : r_1 = zi (pq_ma ms gv tn tb (0 : Int)) := hw
  refine pz_top (y := zi (ms.length : Int)) (congrArg zi (rfl)) ?_
  refine lv_istore_n (lv' := [(1, .int (zi (ms.length : Int))), (0, .ref hh)]) hx hb dL_areStanding_5 rfl hl (by decide) rfl (fun ls hl => ?_)
  refine lv_iload_n hx hb dL_areStanding_6 rfl (lv_at hl 0 rfl) ?_
  refine pz_newaI (N' := ms.length) hx hb (hts (.arrayClass .int) (by decide +kernel)) hK hP hD hS hA (fun h => by rw [← zi_zero, zi_lt (by omega)] at h; omega) (by rw [zi_clamp (by omega) (by omega)]; exact Int.toNat_natCast _) (by omega) (Nat.le_of_ble_eq_true rfl) (show 0 + ms.length ≤ 36 by omega) dL_areStanding_7 (fun q_2 H hP hD hS => ?_)
  have hP := hP.swap
  have hD := hD.swap
  have hP : va_P (dC, dI) vwCl ([(q_2, .inl (cI, ms.length, .inl (zf (fun _ => 0))))] ++ (pq_WD cI cZ cM cT hh ms gv tn tb κ)) H := hP
  have hD : va_D A ([(q_2, .inl (cI, ms.length, .inl (zf (fun _ => 0))))] ++ (pq_WD cI cZ cM cT hh ms gv tn tb κ)) := hD
  refine W.widen (k := 1) (n := 12) (Nat.le_refl _) (show 0 + ms.length ≤ 12 by omega) ?_
  refine lv_astore_n (lv' := [(2, .ref q_2), (1, .int (zi (ms.length : Int))), (0, .ref hh)]) hx hb dL_areStanding_9 rfl hl (by decide) rfl (fun ls hl => ?_)
  refine lv_iload_n hx hb dL_areStanding_10 rfl (lv_at hl 1 rfl) ?_
  refine pz_newaI (N' := ms.length) hx hb (hts (.arrayClass .int) (by decide +kernel)) hK hP hD hS hA (fun h => by rw [← zi_zero, zi_lt (by omega)] at h; omega) (by rw [zi_clamp (by omega) (by omega)]; exact Int.toNat_natCast _) (by omega) (Nat.le_of_ble_eq_true rfl) (show 12 + ms.length ≤ 36 by omega) dL_areStanding_11 (fun q_3 H hP hD hS => ?_)
  have hP := hP.swap
  have hD := hD.swap
  have hP : va_P (dC, dI) vwCl ([(q_2, .inl (cI, ms.length, .inl (zf (fun _ => 0)))), (q_3, .inl (cI, ms.length, .inl (zf (fun _ => 0))))] ++ (pq_WD cI cZ cM cT hh ms gv tn tb κ)) H := hP
  have hD : va_D A ([(q_2, .inl (cI, ms.length, .inl (zf (fun _ => 0)))), (q_3, .inl (cI, ms.length, .inl (zf (fun _ => 0))))] ++ (pq_WD cI cZ cM cT hh ms gv tn tb κ)) := hD
  refine W.widen (k := 2) (n := 24) (Nat.le_refl _) (show 12 + ms.length ≤ 24 by omega) ?_
  refine lv_astore_n (lv' := [(3, .ref q_3), (2, .ref q_2), (1, .int (zi (ms.length : Int))), (0, .ref hh)]) hx hb dL_areStanding_13 rfl hl (by decide) rfl (fun ls hl => ?_)
  refine lv_iload_n hx hb dL_areStanding_14 rfl (lv_at hl 2 rfl) ?_
  refine pz_newaI (N' := ms.length) hx hb (hts (.arrayClass .int) (by decide +kernel)) hK hP hD hS hA (fun h => by rw [← zi_zero, zi_lt (by omega)] at h; omega) (by rw [zi_clamp (by omega) (by omega)]; exact Int.toNat_natCast _) (by omega) (Nat.le_of_ble_eq_true rfl) (show 24 + ms.length ≤ 36 by omega) dL_areStanding_15 (fun q_4 H hP hD hS => ?_)
  have hP := hP.swap
  have hD := hD.swap
  have hP : va_P (dC, dI) vwCl ([(q_2, .inl (cI, ms.length, .inl (zf (fun _ => 0)))), (q_3, .inl (cI, ms.length, .inl (zf (fun _ => 0)))), (q_4, .inl (cI, ms.length, .inl (zf (fun _ => 0))))] ++ (pq_WD cI cZ cM cT hh ms gv tn tb κ)) H := hP
  have hD : va_D A ([(q_2, .inl (cI, ms.length, .inl (zf (fun _ => 0)))), (q_3, .inl (cI, ms.length, .inl (zf (fun _ => 0)))), (q_4, .inl (cI, ms.length, .inl (zf (fun _ => 0))))] ++ (pq_WD cI cZ cM cT hh ms gv tn tb κ)) := hD
  refine W.widen (k := 3) (n := 36) (Nat.le_refl _) (show 24 + ms.length ≤ 36 by omega) ?_
  refine lv_astore (lv' := [(4, .ref q_4), (3, .ref q_3), (2, .ref q_2), (1, .int (zi (ms.length : Int))), (0, .ref hh)]) hx hb dL_areStanding_17 hl (by decide) rfl (fun ls hl => ?_)
  refine lv_iconst (v := zi 0) hx hb dL_areStanding_19 (by decide) ?_
  refine lv_istore (lv' := [(5, .int (zi 0)), (4, .ref q_4), (3, .ref q_3), (2, .ref q_2), (1, .int (zi (ms.length : Int))), (0, .ref hh)]) hx hb dL_areStanding_20 hl (by decide) rfl (fun ls hl => ?_)
  refine pz_loop (fun n9 H locs ls => ∃ (g1 : Nat → Int) (g2 : Nat → Int) (g3 : Nat → Int) (j : Int) (κ2 : pq_S) , n9 = ((ms.length : Int) - j).toNat ∧ (0 ≤ j ∧ j ≤ (ms.length : Int)) ∧ (∀ (t : Nat) (μ : pq_M), (t : Int) < j → ms[t]? = some μ → g1 t = μ.2.2.2.2.2.1 ∧ g2 t = μ.2.2.2.2.2.2.1 ∧ g3 t = μ.2.2.2.2.2.2.2) ∧ (pq_Sok κ2) ∧ va_P (dC, dI) vwCl ([(q_2, .inl (cI, ms.length, .inl (zf g1))), (q_3, .inl (cI, ms.length, .inl (zf g2))), (q_4, .inl (cI, ms.length, .inl (zf g3)))] ++ (pq_WD cI cZ cM cT hh ms gv tn tb κ2)) H ∧ va_D A ([(q_2, .inl (cI, ms.length, .inl (zf g1))), (q_3, .inl (cI, ms.length, .inl (zf g2))), (q_4, .inl (cI, ms.length, .inl (zf g3)))] ++ (pq_WD cI cZ cM cT hh ms gv tn tb κ2)) ∧ va_S A s.heap H locs ∧ lv_has ls 6 [(0, .ref hh), (1, .int (zi (ms.length : Int))), (2, .ref q_2), (3, .ref q_3), (4, .ref q_4), (5, .int (zi j))]) (fun n_22 H locs ls hI ih_22 => ?_) _ ⟨fun _ => 0, fun _ => 0, fun _ => 0, 0, κ, rfl, (by first | assumption | omega | rfl), (fun t μ h => absurd h (by omega)), hκ, hP, hD, hS, lv_sub hl [5, 4, 3, 2, 1, 0] rfl⟩
  obtain ⟨g1, g2, g3, j, κ2, hn_22, hj, hG, hκ2, hP, hD, hS, hl⟩ := hI
  refine lv_iload hx hb dL_areStanding_22 (lv_at hl 5 rfl) ?_
  refine lv_iload_n hx hb dL_areStanding_24 rfl (lv_at hl 1 rfl) ?_
  refine pz_icmp_ge (tgt := 68) hx hb (by omega) dL_areStanding_25 (by decide) (fun c_5 => ?_) (fun c_5 => ?_)
  · have hGF : ∀ (t : Nat) (μ : pq_M), (t : Int) < (ms.length : Int) → ms[t]? = some μ → g1 t = μ.2.2.2.2.2.1 ∧ g2 t = μ.2.2.2.2.2.2.1 ∧ g3 t = μ.2.2.2.2.2.2.2 := fun t μ h1 h2 => hG t μ (by omega) h2
    refine lv_iconst (v := zi 0) hx hb dL_areStanding_68 (by decide) ?_
    refine lv_istore (lv' := [(5, .int (zi 0)), (0, .ref hh), (1, .int (zi (ms.length : Int))), (2, .ref q_2), (3, .ref q_3), (4, .ref q_4)]) hx hb dL_areStanding_69 hl (by decide) rfl (fun ls hl => ?_)
    refine pz_loop (fun n9 H locs ls => ∃ (j2 : Int) (κ4 : pq_S) (ms2 : List pq_M) (tb2 : Int) , n9 = (4 - j2).toNat ∧ (0 ≤ j2 ∧ j2 ≤ 4) ∧ (pq_Sok κ4) ∧ (pq_k2 ms ms2 j2) ∧ va_P (dC, dI) vwCl ([(q_2, .inl (cI, ms.length, .inl (zf g1))), (q_3, .inl (cI, ms.length, .inl (zf g2))), (q_4, .inl (cI, ms.length, .inl (zf g3)))] ++ (pq_WD cI cZ cM cT hh ms2 gv tn tb2 κ4)) H ∧ va_D A ([(q_2, .inl (cI, ms.length, .inl (zf g1))), (q_3, .inl (cI, ms.length, .inl (zf g2))), (q_4, .inl (cI, ms.length, .inl (zf g3)))] ++ (pq_WD cI cZ cM cT hh ms2 gv tn tb2 κ4)) ∧ va_S A s.heap H locs ∧ lv_has ls 6 [(0, .ref hh), (1, .int (zi (ms.length : Int))), (2, .ref q_2), (3, .ref q_3), (4, .ref q_4), (5, .int (zi j2))]) (fun n_71 H locs ls hI ih_71 => ?_) _ ⟨0, κ2, ms, tb, rfl, (by first | assumption | omega | rfl), hκ2, (pq_k2_0 hms), hP, hD, hS, lv_sub hl [1, 2, 3, 4, 5, 0] rfl⟩
    obtain ⟨j2, κ4, ms2, tb2, hn_71, hj2, hκ4, hk2, hP, hD, hS, hl⟩ := hI
    refine lv_iload hx hb dL_areStanding_71 (lv_at hl 5 rfl) ?_
    refine lv_iconst (v := zi 4) hx hb dL_areStanding_73 (by decide) ?_
    refine pz_icmp_ge (tgt := 90) hx hb (by omega) dL_areStanding_74 (by decide) (fun c_6 => ?_) (fun c_6 => ?_)
    · refine lv_iconst (v := zi 0) hx hb dL_areStanding_90 (by decide) ?_
      refine lv_istore (lv' := [(5, .int (zi 0)), (0, .ref hh), (1, .int (zi (ms.length : Int))), (2, .ref q_2), (3, .ref q_3), (4, .ref q_4)]) hx hb dL_areStanding_91 hl (by decide) rfl (fun ls hl => ?_)
      refine pz_loop (fun n9 H locs ls => ∃ (j3 : Int) (κ5 : pq_S) (ms3 : List pq_M) (gv3 : Int) (tn3 : Int) , n9 = ((ms.length : Int) - j3).toNat ∧ (0 ≤ j3 ∧ j3 ≤ (ms.length : Int)) ∧ (pq_Sok κ5) ∧ (pq_k3 ms ms3 j3) ∧ va_P (dC, dI) vwCl ([(q_2, .inl (cI, ms.length, .inl (zf g1))), (q_3, .inl (cI, ms.length, .inl (zf g2))), (q_4, .inl (cI, ms.length, .inl (zf g3)))] ++ (pq_WD cI cZ cM cT hh ms3 gv3 tn3 tb2 κ5)) H ∧ va_D A ([(q_2, .inl (cI, ms.length, .inl (zf g1))), (q_3, .inl (cI, ms.length, .inl (zf g2))), (q_4, .inl (cI, ms.length, .inl (zf g3)))] ++ (pq_WD cI cZ cM cT hh ms3 gv3 tn3 tb2 κ5)) ∧ va_S A s.heap H locs ∧ lv_has ls 6 [(0, .ref hh), (1, .int (zi (ms.length : Int))), (2, .ref q_2), (3, .ref q_3), (4, .ref q_4), (5, .int (zi j3))]) (fun n_93 H locs ls hI ih_93 => ?_) _ ⟨0, κ4, ms2, gv, tn, rfl, (by first | assumption | omega | rfl), hκ4, (pq_k3_0 (by have e9 : j2 = 4 := (by omega); rw [e9] at hk2; exact hk2)), hP, hD, hS, lv_sub hl [1, 2, 3, 4, 5, 0] rfl⟩
      obtain ⟨j3, κ5, ms3, gv3, tn3, hn_93, hj3, hκ5, hk3, hP, hD, hS, hl⟩ := hI
      refine lv_iload hx hb dL_areStanding_93 (lv_at hl 5 rfl) ?_
      refine lv_iload_n hx hb dL_areStanding_95 rfl (lv_at hl 1 rfl) ?_
      refine pz_icmp_ge (tgt := 136) hx hb (by omega) dL_areStanding_96 (by decide) (fun c_7 => ?_) (fun c_7 => ?_)
      · refine lv_aload_n hx hb dL_areStanding_136 rfl (lv_at hl 0 rfl) ?_
        refine lv_iconst (v := zi 0) hx hb dL_areStanding_137 (by decide) ?_
        have hPc := hP.part (cx := []) [] rfl
        have hDc := hD.part (cx := []) [] (by decide) rfl
        have hFc := va_freeP (cx := []) hD hS hA [] rfl
        refine va_calli (va_runV (As := [.int (zi 0)]) (rest := []) ⟨hx, hb, hml, hown, hts⟩ (c_X7_many l dC dI cI cZ cM cT H.size hh ms3 gv3 tn3 tb2 κ5 0 hk3.1.1 hκ5 (by first | assumption | omega | rfl)) (cwV 1 hts (goodIn_of _ (by decide +kernel)) rfl rfl rfl (by decide +kernel) ⟨Nat.le_of_ble_eq_true rfl, Nat.le_of_ble_eq_true rfl⟩) ⟨fun a U g mk q => by obtain ⟨q0, q1, qP, qK, qD⟩ := q; exact ⟨q0, q1, qP, va_K.moved (u := U) (U := U.calling g mk a) (Vm.Alike.refl U.vm) qK, qD⟩, va_recv hK hPc (ci := 6) (q0 := 0) rfl rfl, fun U hU hW => ⟨rfl, by rw [hU], by rw [hU]; exact hPc, va_K.moved hW.alike hK, hDc.weaken (fun _ _ _ _ => trivial)⟩⟩ rfl rfl hl.1 rfl (lv_room (Nat.le_of_ble_eq_true rfl)) dL_areStanding_138 ⟨Nat.le_of_ble_eq_true rfl, Nat.le_of_ble_eq_true rfl⟩) hS (fun q _ h => hFc q h) hFc (fun r_8 u t H1 locs ht hvm hw hB hz1 hk1 hS => ?_)
        obtain ⟨hP1, hK1, hD1⟩ := hB
        rw [ht] at hP1
        obtain ⟨hP, hD⟩ := va_joinP (wr := [(q_2, .inl (cI, ms.length, .inl (zf g1))), (q_3, .inl (cI, ms.length, .inl (zf g2))), (q_4, .inl (cI, ms.length, .inl (zf g3)))]) (rx := []) (pl1 := (pq_WD cI cZ cM cT hh ms3 gv3 tn3 tb2 κ5)) hP hD [] [0, 1, 2] rfl rfl (by decide) (by decide) hk1 hFc hP1 hD1
        generalize H1 = H at hP hS ⊢
        have hP : va_P (dC, dI) vwCl ([(q_2, .inl (cI, ms.length, .inl (zf g1))), (q_3, .inl (cI, ms.length, .inl (zf g2))), (q_4, .inl (cI, ms.length, .inl (zf g3)))] ++ (pq_WD cI cZ cM cT hh ms3 gv3 tn3 tb2 κ5)) H := hP
        have hD : va_D A ([(q_2, .inl (cI, ms.length, .inl (zf g1))), (q_3, .inl (cI, ms.length, .inl (zf g2))), (q_4, .inl (cI, ms.length, .inl (zf g3)))] ++ (pq_WD cI cZ cM cT hh ms3 gv3 tn3 tb2 κ5)) := hD
        refine W.widen (k := 3) (n := 36) (Nat.le_of_ble_eq_true rfl) (Nat.le_of_ble_eq_true rfl) ?_
        obtain rfl : r_8 = zi (pq_ma ms3 gv3 tn3 tb2 (0 : Int)) := hw
        refine pz_top (y := zi (ms.length : Int)) (congrArg zi (by show (ms3.length : Int) = (ms.length : Int); rw [hk3.1.2])) ?_
        refine lv_iload_n hx hb dL_areStanding_141 rfl (lv_at hl 1 rfl) ?_
        refine pz_icmp_ne (tgt := 149) hx hb (by omega) dL_areStanding_142 (by decide) (fun c_9 => ?_) (fun c_9 => ?_)
        · exact absurd rfl c_9
        · refine lv_iconst (v := zi 1) hx hb dL_areStanding_145 (by decide) ?_
          refine lv_goto (tgt := 150) hx hb dL_areStanding_146 (by decide) ?_
          have hP := hP.part (cx := []) [] rfl
          have hD := hD.part (cx := []) [] (by decide) rfl
          refine W.widen (k := 3) (n := 36) (Nat.le_of_ble_eq_true rfl) (Nat.le_of_ble_eq_true rfl) ?_
          exact W.zret (v := (zi 1)) hx hb hr (pz_nar (by first | omega | exact pb_or _)) (fun t ht hW => ⟨⟨(zi 1), (), rfl, rfl, ⟨κ5, ms3, gv3, tn3, tb2, hκ5, by rw [ht]; exact hP, va_K.moved hW.alike hK, hD⟩⟩, hS.F ht⟩) hS.2.2 dL_areStanding_150
      · have hl3 := hk3.1.2
        obtain ⟨⟨am, aw, av, ax, T, kk, ka, kb⟩, hμ⟩ : ∃ μ, ms3[j3.toNat]? = some μ := ⟨_, List.getElem?_eq_getElem (by omega)⟩
        obtain ⟨⟨⟨am0, aw0, av0, ax0, T0, k0, a0_, b0_⟩, hν, hTT⟩, hkk⟩ := hk3.2 j3.toNat _ (by omega) hμ
        have hTT : T0 = T := hTT
        have hkk : kk = -1 := hkk
        have hμ : ms3[j3.toNat]? = some (am, aw, av, ax, T0, -1, ka, kb) := by rw [hμ, hkk, hTT]
        obtain ⟨hg1, hg2, hg3⟩ := hGF j3.toNat _ (by omega) hν
        have hmk := pq_mo_at hk3.1.1 hμ
        have hm0 := pq_mo_at hms hν
        have hkr := pq_mok_k hm0
        have hg1 : g1 j3.toNat = k0 := hg1
        have hg2 : g2 j3.toNat = a0_ := hg2
        have hg3 : g3 j3.toNat = b0_ := hg3
        refine lv_aload_n hx hb dL_areStanding_99 rfl (lv_at hl 2 rfl) ?_
        refine lv_iload hx hb dL_areStanding_100 (lv_at hl 5 rfl) ?_
        refine pz_iald hx hb hK hP 0 0 rfl rfl (i := j3) (by omega) dL_areStanding_102 ?_
        refine pz_top (y := (zi k0)) (congrArg zi hg1) ?_
        refine pz_if_lt (tgt := 130) hx hb (by omega) dL_areStanding_103 (by decide) (fun c_10 => ?_) (fun c_10 => ?_)
        · refine pz_iinc (lv' := [(5, .int (zi (j3 + 1))), (0, .ref hh), (1, .int (zi (ms.length : Int))), (2, .ref q_2), (3, .ref q_3), (4, .ref q_4)]) hx hb dL_areStanding_130 hl (k := 5) rfl (by decide) rfl (fun ls hl => ?_)
          refine lv_goto (tgt := 93) hx hb dL_areStanding_133 (by decide) ?_
          exact ih_93 _ _ _ _ ⟨j3 + 1, κ5, ms3, gv3, tn3, rfl, (by first | assumption | omega | rfl), hκ5, (pq_k3_s hk3), hP, hD, hS, lv_sub hl [1, 2, 3, 4, 5, 0] rfl⟩ (by omega)
        · have hcert : pq_cert T0 k0 a0_ b0_ := pq_mok_c hm0 (by omega)
          refine lv_aload_n hx hb dL_areStanding_106 rfl (lv_at hl 0 rfl) ?_
          refine lv_iload hx hb dL_areStanding_107 (lv_at hl 5 rfl) ?_
          refine lv_aload_n hx hb dL_areStanding_109 rfl (lv_at hl 2 rfl) ?_
          refine lv_iload hx hb dL_areStanding_110 (lv_at hl 5 rfl) ?_
          refine pz_iald hx hb hK hP 0 0 rfl rfl (i := j3) (by omega) dL_areStanding_112 ?_
          refine pz_top (y := (zi k0)) (congrArg zi hg1) ?_
          refine lv_aload_n hx hb dL_areStanding_113 rfl (lv_at hl 3 rfl) ?_
          refine lv_iload hx hb dL_areStanding_114 (lv_at hl 5 rfl) ?_
          refine pz_iald hx hb hK hP 1 0 rfl rfl (i := j3) (by omega) dL_areStanding_116 ?_
          refine pz_top (y := (zi a0_)) (congrArg zi hg2) ?_
          refine lv_aload hx hb dL_areStanding_117 (lv_at hl 4 rfl) ?_
          refine lv_iload hx hb dL_areStanding_119 (lv_at hl 5 rfl) ?_
          refine pz_iald hx hb hK hP 2 0 rfl rfl (i := j3) (by omega) dL_areStanding_121 ?_
          refine pz_top (y := (zi b0_)) (congrArg zi hg3) ?_
          have hPc := hP.part (cx := []) [] rfl
          have hDc := hD.part (cx := []) [] (by decide) rfl
          have hFc := va_freeP (cx := []) hD hS hA [] rfl
          refine va_calli (va_runV (As := [.int (zi j3), .int (zi k0), .int (zi a0_), .int (zi b0_)]) (rest := []) ⟨hx, hb, hml, hown, hts⟩ (c_X7_prove l dC dI cI cZ cM cT H.size hh ms3 gv3 tn3 tb2 κ5 j3 am aw av ax T0 ka kb k0 a0_ b0_ hk3.1.1 hκ5 (by first | assumption | omega | rfl) hμ (pq_cert_ic hcert)) (cwV 4 hts (goodIn_of _ (by decide +kernel)) rfl rfl rfl (by decide +kernel) ⟨Nat.le_of_ble_eq_true rfl, Nat.le_of_ble_eq_true rfl⟩) ⟨fun a U g mk q => by obtain ⟨q0, q1, qP, qK, qD⟩ := q; exact ⟨q0, q1, qP, va_K.moved (u := U) (U := U.calling g mk a) (Vm.Alike.refl U.vm) qK, qD⟩, va_recv hK hPc (ci := 6) (q0 := 0) rfl rfl, fun U hU hW => ⟨rfl, by rw [hU], by rw [hU]; exact hPc, va_K.moved hW.alike hK, hDc.weaken (fun _ _ _ _ => trivial)⟩⟩ rfl rfl hl.1 rfl (lv_room (Nat.le_of_ble_eq_true rfl)) dL_areStanding_122 ⟨Nat.le_of_ble_eq_true rfl, Nat.le_of_ble_eq_true rfl⟩) hS (fun q _ h => hFc q h) hFc (fun r_11 u t H1 locs ht hvm hw hB hz1 hk1 hS => ?_)
          obtain ⟨κ1_12, ms1_13, tn1_14, hz_15, hm_16, hP1, hK1, hD1⟩ := hB
          rw [ht] at hP1
          obtain ⟨hP, hD⟩ := va_joinP (wr := [(q_2, .inl (cI, ms.length, .inl (zf g1))), (q_3, .inl (cI, ms.length, .inl (zf g2))), (q_4, .inl (cI, ms.length, .inl (zf g3)))]) (rx := []) (pl1 := (pq_WD cI cZ cM cT hh ms1_13 (gv3 + 1) tn1_14 tb2 κ1_12)) hP hD [] [0, 1, 2] rfl rfl (by decide) (by decide) hk1 hFc hP1 hD1
          generalize H1 = H at hP hS ⊢
          have hP : va_P (dC, dI) vwCl ([(q_2, .inl (cI, ms.length, .inl (zf g1))), (q_3, .inl (cI, ms.length, .inl (zf g2))), (q_4, .inl (cI, ms.length, .inl (zf g3)))] ++ (pq_WD cI cZ cM cT hh ms1_13 (gv3 + 1) tn1_14 tb2 κ1_12)) H := hP
          have hD : va_D A ([(q_2, .inl (cI, ms.length, .inl (zf g1))), (q_3, .inl (cI, ms.length, .inl (zf g2))), (q_4, .inl (cI, ms.length, .inl (zf g3)))] ++ (pq_WD cI cZ cM cT hh ms1_13 (gv3 + 1) tn1_14 tb2 κ1_12)) := hD
          refine W.widen (k := 3) (n := 36) (Nat.le_of_ble_eq_true rfl) (Nat.le_of_ble_eq_true rfl) ?_
          obtain rfl : r_11 = zi (pb (pq_cert T0 k0 a0_ b0_)) := hw
          refine pz_ifb_ne (tgt := 130) hx hb dL_areStanding_125 (by decide) (fun c_17 => ?_) (fun c_17 => ?_)
          · refine pz_iinc (lv' := [(5, .int (zi (j3 + 1))), (0, .ref hh), (1, .int (zi (ms.length : Int))), (2, .ref q_2), (3, .ref q_3), (4, .ref q_4)]) hx hb dL_areStanding_130 hl (k := 5) rfl (by decide) rfl (fun ls hl => ?_)
            refine lv_goto (tgt := 93) hx hb dL_areStanding_133 (by decide) ?_
            exact ih_93 _ _ _ _ ⟨j3 + 1, κ1_12, ms1_13, (gv3 + 1), tn1_14, rfl, (by first | assumption | omega | rfl), hz_15, (by rw [(hm_16.1 hcert).1]; exact pq_k3_1 hj3.1 hk3 ⟨hmk.1, Or.inr hcert⟩), hP, hD, hS, lv_sub hl [1, 2, 3, 4, 5, 0] rfl⟩ (by omega)
          · exact absurd hcert c_17
    · refine lv_aload_n hx hb dL_areStanding_77 rfl (lv_at hl 0 rfl) ?_
      refine lv_iload hx hb dL_areStanding_78 (lv_at hl 5 rfl) ?_
      have hPc := hP.part (cx := []) [] rfl
      have hDc := hD.part (cx := []) [] (by decide) rfl
      have hFc := va_freeP (cx := []) hD hS hA [] rfl
      refine va_calli (va_runV (As := [.int (zi j2)]) (rest := []) ⟨hx, hb, hml, hown, hts⟩ (c_X7_doubt l dC dI cI cZ cM cT H.size hh ms2 gv tn tb2 κ4 j2 hk2.1.1 hκ4 (by first | assumption | omega | rfl)) (cwV 1 hts (goodIn_of _ (by decide +kernel)) rfl rfl rfl (by decide +kernel) ⟨Nat.le_of_ble_eq_true rfl, Nat.le_of_ble_eq_true rfl⟩) ⟨fun a U g mk q => by obtain ⟨q0, q1, qP, qK, qD⟩ := q; exact ⟨q0, q1, qP, va_K.moved (u := U) (U := U.calling g mk a) (Vm.Alike.refl U.vm) qK, qD⟩, va_recv hK hPc (ci := 6) (q0 := 0) rfl rfl, fun U hU hW => ⟨rfl, by rw [hU], by rw [hU]; exact hPc, va_K.moved hW.alike hK, hDc.weaken (fun _ _ _ _ => trivial)⟩⟩ rfl rfl hl.1 rfl (lv_room (Nat.le_of_ble_eq_true rfl)) dL_areStanding_80 ⟨Nat.le_of_ble_eq_true rfl, Nat.le_of_ble_eq_true rfl⟩) hS (fun q _ h => hFc q h) hFc (fun r_18 u t H1 locs ht hvm hw hB hz1 hk1 hS => ?_)
      obtain ⟨κ1_19, ms1_20, tb1_21, hz_22, hm_23, hP1, hK1, hD1⟩ := hB
      rw [ht] at hP1
      obtain ⟨hP, hD⟩ := va_joinP (wr := [(q_2, .inl (cI, ms.length, .inl (zf g1))), (q_3, .inl (cI, ms.length, .inl (zf g2))), (q_4, .inl (cI, ms.length, .inl (zf g3)))]) (rx := []) (pl1 := (pq_WD cI cZ cM cT hh ms1_20 gv tn tb1_21 κ1_19)) hP hD [] [0, 1, 2] rfl rfl (by decide) (by decide) hk1 hFc hP1 hD1
      generalize H1 = H at hP hS ⊢
      have hP : va_P (dC, dI) vwCl ([(q_2, .inl (cI, ms.length, .inl (zf g1))), (q_3, .inl (cI, ms.length, .inl (zf g2))), (q_4, .inl (cI, ms.length, .inl (zf g3)))] ++ (pq_WD cI cZ cM cT hh ms1_20 gv tn tb1_21 κ1_19)) H := hP
      have hD : va_D A ([(q_2, .inl (cI, ms.length, .inl (zf g1))), (q_3, .inl (cI, ms.length, .inl (zf g2))), (q_4, .inl (cI, ms.length, .inl (zf g3)))] ++ (pq_WD cI cZ cM cT hh ms1_20 gv tn tb1_21 κ1_19)) := hD
      refine W.widen (k := 3) (n := 36) (Nat.le_of_ble_eq_true rfl) (Nat.le_of_ble_eq_true rfl) ?_
      obtain rfl : r_18 = zi (pq_ck j2 ms2) := hw
      refine lv_pop hx hb dL_areStanding_83 rfl ?_
      refine pz_iinc (lv' := [(5, .int (zi (j2 + 1))), (0, .ref hh), (1, .int (zi (ms.length : Int))), (2, .ref q_2), (3, .ref q_3), (4, .ref q_4)]) hx hb dL_areStanding_84 hl (k := 5) rfl (by decide) rfl (fun ls hl => ?_)
      refine lv_goto (tgt := 71) hx hb dL_areStanding_87 (by decide) ?_
      exact ih_71 _ _ _ _ ⟨j2 + 1, κ1_19, ms1_20, tb1_21, rfl, (by first | assumption | omega | rfl), hz_22, (by rw [hm_23.1]; exact pq_k2_1 hk2), hP, hD, hS, lv_sub hl [1, 2, 3, 4, 5, 0] rfl⟩ (by omega)
  · obtain ⟨⟨am, aw, av, ax, T, kk, ka, kb⟩, hμ⟩ : ∃ μ, ms[j.toNat]? = some μ := ⟨_, List.getElem?_eq_getElem (by omega)⟩
    refine lv_aload_n hx hb dL_areStanding_28 rfl (lv_at hl 2 rfl) ?_
    refine lv_iload hx hb dL_areStanding_29 (lv_at hl 5 rfl) ?_
    refine lv_aload_n hx hb dL_areStanding_31 rfl (lv_at hl 0 rfl) ?_
    refine lv_iload hx hb dL_areStanding_32 (lv_at hl 5 rfl) ?_
    refine lv_iconst (v := zi 2) hx hb dL_areStanding_34 (by decide) ?_
    have hPc := hP.part (cx := []) [] rfl
    have hDc := hD.part (cx := []) [] (by decide) rfl
    have hFc := va_freeP (cx := []) hD hS hA [] rfl
    refine va_calli (va_runV (As := [.int (zi j), .int (zi 2)]) (rest := [.int (zi j), .ref q_2]) ⟨hx, hb, hml, hown, hts⟩ (c_X7_ofMachine l dC dI cI cZ cM cT H.size hh ms gv tn tb κ2 j am aw av ax T kk ka kb 2 (by first | assumption | omega | rfl) hκ2 (by first | assumption | omega | rfl) hμ (by first | assumption | omega | rfl)) (cwV 2 hts (goodIn_of _ (by decide +kernel)) rfl rfl rfl (by decide +kernel) ⟨Nat.le_of_ble_eq_true rfl, Nat.le_of_ble_eq_true rfl⟩) ⟨fun a U g mk q => by obtain ⟨q0, q1, qP, qK, qD⟩ := q; exact ⟨q0, q1, qP, va_K.moved (u := U) (U := U.calling g mk a) (Vm.Alike.refl U.vm) qK, qD⟩, va_recv hK hPc (ci := 6) (q0 := 0) rfl rfl, fun U hU hW => ⟨rfl, by rw [hU], by rw [hU]; exact hPc, va_K.moved hW.alike hK, hDc.weaken (fun _ _ _ _ => trivial)⟩⟩ rfl rfl hl.1 rfl (lv_room (Nat.le_of_ble_eq_true rfl)) dL_areStanding_35 ⟨Nat.le_of_ble_eq_true rfl, Nat.le_of_ble_eq_true rfl⟩) hS (fun q _ h => hFc q h) hFc (fun r_24 u t H1 locs ht hvm hw hB hz1 hk1 hS => ?_)
    obtain ⟨κ1_25, hz_26, hP1, hK1, hD1⟩ := hB
    rw [ht] at hP1
    obtain ⟨hP, hD⟩ := va_joinP (wr := [(q_2, .inl (cI, ms.length, .inl (zf g1))), (q_3, .inl (cI, ms.length, .inl (zf g2))), (q_4, .inl (cI, ms.length, .inl (zf g3)))]) (rx := []) (pl1 := (pq_WD cI cZ cM cT hh ms gv tn tb κ1_25)) hP hD [] [0, 1, 2] rfl rfl (by decide) (by decide) hk1 hFc hP1 hD1
    generalize H1 = H at hP hS ⊢
    have hP : va_P (dC, dI) vwCl ([(q_2, .inl (cI, ms.length, .inl (zf g1))), (q_3, .inl (cI, ms.length, .inl (zf g2))), (q_4, .inl (cI, ms.length, .inl (zf g3)))] ++ (pq_WD cI cZ cM cT hh ms gv tn tb κ1_25)) H := hP
    have hD : va_D A ([(q_2, .inl (cI, ms.length, .inl (zf g1))), (q_3, .inl (cI, ms.length, .inl (zf g2))), (q_4, .inl (cI, ms.length, .inl (zf g3)))] ++ (pq_WD cI cZ cM cT hh ms gv tn tb κ1_25)) := hD
    refine W.widen (k := 3) (n := 36) (Nat.le_of_ble_eq_true rfl) (Nat.le_of_ble_eq_true rfl) ?_
    obtain rfl : r_24 = zi (pq_om T kk ka kb (2 : Int)) := hw
    refine pz_top (y := zi kk) (congrArg zi (rfl)) ?_
    refine pz_iast hx hb hK hP hD hS 0 0 rfl rfl (i := j) (x := kk) (by omega) dL_areStanding_38 (fun H locs hP hD hS => ?_)
    have hP : va_P (dC, dI) vwCl ([(q_2, .inl (cI, ms.length, .inl (zf (pz_u g1 j.toNat kk)))), (q_3, .inl (cI, ms.length, .inl (zf g2))), (q_4, .inl (cI, ms.length, .inl (zf g3)))] ++ (pq_WD cI cZ cM cT hh ms gv tn tb κ1_25)) H := hP
    have hD : va_D A ([(q_2, .inl (cI, ms.length, .inl (zf (pz_u g1 j.toNat kk)))), (q_3, .inl (cI, ms.length, .inl (zf g2))), (q_4, .inl (cI, ms.length, .inl (zf g3)))] ++ (pq_WD cI cZ cM cT hh ms gv tn tb κ1_25)) := hD
    refine lv_aload_n hx hb dL_areStanding_39 rfl (lv_at hl 3 rfl) ?_
    refine lv_iload hx hb dL_areStanding_40 (lv_at hl 5 rfl) ?_
    refine lv_aload_n hx hb dL_areStanding_42 rfl (lv_at hl 0 rfl) ?_
    refine lv_iload hx hb dL_areStanding_43 (lv_at hl 5 rfl) ?_
    refine lv_iconst (v := zi 3) hx hb dL_areStanding_45 (by decide) ?_
    have hPc := hP.part (cx := []) [] rfl
    have hDc := hD.part (cx := []) [] (by decide) rfl
    have hFc := va_freeP (cx := []) hD hS hA [] rfl
    refine va_calli (va_runV (As := [.int (zi j), .int (zi 3)]) (rest := [.int (zi j), .ref q_3]) ⟨hx, hb, hml, hown, hts⟩ (c_X7_ofMachine l dC dI cI cZ cM cT H.size hh ms gv tn tb κ1_25 j am aw av ax T kk ka kb 3 (by first | assumption | omega | rfl) hz_26 (by first | assumption | omega | rfl) hμ (by first | assumption | omega | rfl)) (cwV 2 hts (goodIn_of _ (by decide +kernel)) rfl rfl rfl (by decide +kernel) ⟨Nat.le_of_ble_eq_true rfl, Nat.le_of_ble_eq_true rfl⟩) ⟨fun a U g mk q => by obtain ⟨q0, q1, qP, qK, qD⟩ := q; exact ⟨q0, q1, qP, va_K.moved (u := U) (U := U.calling g mk a) (Vm.Alike.refl U.vm) qK, qD⟩, va_recv hK hPc (ci := 6) (q0 := 0) rfl rfl, fun U hU hW => ⟨rfl, by rw [hU], by rw [hU]; exact hPc, va_K.moved hW.alike hK, hDc.weaken (fun _ _ _ _ => trivial)⟩⟩ rfl rfl hl.1 rfl (lv_room (Nat.le_of_ble_eq_true rfl)) dL_areStanding_46 ⟨Nat.le_of_ble_eq_true rfl, Nat.le_of_ble_eq_true rfl⟩) hS (fun q _ h => hFc q h) hFc (fun r_27 u t H1 locs ht hvm hw hB hz1 hk1 hS => ?_)
    obtain ⟨κ1_28, hz_29, hP1, hK1, hD1⟩ := hB
    rw [ht] at hP1
    obtain ⟨hP, hD⟩ := va_joinP (wr := [(q_2, .inl (cI, ms.length, .inl (zf (pz_u g1 j.toNat kk)))), (q_3, .inl (cI, ms.length, .inl (zf g2))), (q_4, .inl (cI, ms.length, .inl (zf g3)))]) (rx := []) (pl1 := (pq_WD cI cZ cM cT hh ms gv tn tb κ1_28)) hP hD [] [0, 1, 2] rfl rfl (by decide) (by decide) hk1 hFc hP1 hD1
    generalize H1 = H at hP hS ⊢
    have hP : va_P (dC, dI) vwCl ([(q_2, .inl (cI, ms.length, .inl (zf (pz_u g1 j.toNat kk)))), (q_3, .inl (cI, ms.length, .inl (zf g2))), (q_4, .inl (cI, ms.length, .inl (zf g3)))] ++ (pq_WD cI cZ cM cT hh ms gv tn tb κ1_28)) H := hP
    have hD : va_D A ([(q_2, .inl (cI, ms.length, .inl (zf (pz_u g1 j.toNat kk)))), (q_3, .inl (cI, ms.length, .inl (zf g2))), (q_4, .inl (cI, ms.length, .inl (zf g3)))] ++ (pq_WD cI cZ cM cT hh ms gv tn tb κ1_28)) := hD
    refine W.widen (k := 3) (n := 36) (Nat.le_of_ble_eq_true rfl) (Nat.le_of_ble_eq_true rfl) ?_
    obtain rfl : r_27 = zi (pq_om T kk ka kb (3 : Int)) := hw
    refine pz_top (y := zi ka) (congrArg zi (rfl)) ?_
    refine pz_iast hx hb hK hP hD hS 1 0 rfl rfl (i := j) (x := ka) (by omega) dL_areStanding_49 (fun H locs hP hD hS => ?_)
    have hP : va_P (dC, dI) vwCl ([(q_2, .inl (cI, ms.length, .inl (zf (pz_u g1 j.toNat kk)))), (q_3, .inl (cI, ms.length, .inl (zf (pz_u g2 j.toNat ka)))), (q_4, .inl (cI, ms.length, .inl (zf g3)))] ++ (pq_WD cI cZ cM cT hh ms gv tn tb κ1_28)) H := hP
    have hD : va_D A ([(q_2, .inl (cI, ms.length, .inl (zf (pz_u g1 j.toNat kk)))), (q_3, .inl (cI, ms.length, .inl (zf (pz_u g2 j.toNat ka)))), (q_4, .inl (cI, ms.length, .inl (zf g3)))] ++ (pq_WD cI cZ cM cT hh ms gv tn tb κ1_28)) := hD
    refine lv_aload hx hb dL_areStanding_50 (lv_at hl 4 rfl) ?_
    refine lv_iload hx hb dL_areStanding_52 (lv_at hl 5 rfl) ?_
    refine lv_aload_n hx hb dL_areStanding_54 rfl (lv_at hl 0 rfl) ?_
    refine lv_iload hx hb dL_areStanding_55 (lv_at hl 5 rfl) ?_
    refine lv_iconst (v := zi 4) hx hb dL_areStanding_57 (by decide) ?_
    have hPc := hP.part (cx := []) [] rfl
    have hDc := hD.part (cx := []) [] (by decide) rfl
    have hFc := va_freeP (cx := []) hD hS hA [] rfl
    refine va_calli (va_runV (As := [.int (zi j), .int (zi 4)]) (rest := [.int (zi j), .ref q_4]) ⟨hx, hb, hml, hown, hts⟩ (c_X7_ofMachine l dC dI cI cZ cM cT H.size hh ms gv tn tb κ1_28 j am aw av ax T kk ka kb 4 (by first | assumption | omega | rfl) hz_29 (by first | assumption | omega | rfl) hμ (by first | assumption | omega | rfl)) (cwV 2 hts (goodIn_of _ (by decide +kernel)) rfl rfl rfl (by decide +kernel) ⟨Nat.le_of_ble_eq_true rfl, Nat.le_of_ble_eq_true rfl⟩) ⟨fun a U g mk q => by obtain ⟨q0, q1, qP, qK, qD⟩ := q; exact ⟨q0, q1, qP, va_K.moved (u := U) (U := U.calling g mk a) (Vm.Alike.refl U.vm) qK, qD⟩, va_recv hK hPc (ci := 6) (q0 := 0) rfl rfl, fun U hU hW => ⟨rfl, by rw [hU], by rw [hU]; exact hPc, va_K.moved hW.alike hK, hDc.weaken (fun _ _ _ _ => trivial)⟩⟩ rfl rfl hl.1 rfl (lv_room (Nat.le_of_ble_eq_true rfl)) dL_areStanding_58 ⟨Nat.le_of_ble_eq_true rfl, Nat.le_of_ble_eq_true rfl⟩) hS (fun q _ h => hFc q h) hFc (fun r_30 u t H1 locs ht hvm hw hB hz1 hk1 hS => ?_)
    obtain ⟨κ1_31, hz_32, hP1, hK1, hD1⟩ := hB
    rw [ht] at hP1
    obtain ⟨hP, hD⟩ := va_joinP (wr := [(q_2, .inl (cI, ms.length, .inl (zf (pz_u g1 j.toNat kk)))), (q_3, .inl (cI, ms.length, .inl (zf (pz_u g2 j.toNat ka)))), (q_4, .inl (cI, ms.length, .inl (zf g3)))]) (rx := []) (pl1 := (pq_WD cI cZ cM cT hh ms gv tn tb κ1_31)) hP hD [] [0, 1, 2] rfl rfl (by decide) (by decide) hk1 hFc hP1 hD1
    generalize H1 = H at hP hS ⊢
    have hP : va_P (dC, dI) vwCl ([(q_2, .inl (cI, ms.length, .inl (zf (pz_u g1 j.toNat kk)))), (q_3, .inl (cI, ms.length, .inl (zf (pz_u g2 j.toNat ka)))), (q_4, .inl (cI, ms.length, .inl (zf g3)))] ++ (pq_WD cI cZ cM cT hh ms gv tn tb κ1_31)) H := hP
    have hD : va_D A ([(q_2, .inl (cI, ms.length, .inl (zf (pz_u g1 j.toNat kk)))), (q_3, .inl (cI, ms.length, .inl (zf (pz_u g2 j.toNat ka)))), (q_4, .inl (cI, ms.length, .inl (zf g3)))] ++ (pq_WD cI cZ cM cT hh ms gv tn tb κ1_31)) := hD
    refine W.widen (k := 3) (n := 36) (Nat.le_of_ble_eq_true rfl) (Nat.le_of_ble_eq_true rfl) ?_
    obtain rfl : r_30 = zi (pq_om T kk ka kb (4 : Int)) := hw
    refine pz_top (y := zi kb) (congrArg zi (rfl)) ?_
    refine pz_iast hx hb hK hP hD hS 2 0 rfl rfl (i := j) (x := kb) (by omega) dL_areStanding_61 (fun H locs hP hD hS => ?_)
    have hP : va_P (dC, dI) vwCl ([(q_2, .inl (cI, ms.length, .inl (zf (pz_u g1 j.toNat kk)))), (q_3, .inl (cI, ms.length, .inl (zf (pz_u g2 j.toNat ka)))), (q_4, .inl (cI, ms.length, .inl (zf (pz_u g3 j.toNat kb))))] ++ (pq_WD cI cZ cM cT hh ms gv tn tb κ1_31)) H := hP
    have hD : va_D A ([(q_2, .inl (cI, ms.length, .inl (zf (pz_u g1 j.toNat kk)))), (q_3, .inl (cI, ms.length, .inl (zf (pz_u g2 j.toNat ka)))), (q_4, .inl (cI, ms.length, .inl (zf (pz_u g3 j.toNat kb))))] ++ (pq_WD cI cZ cM cT hh ms gv tn tb κ1_31)) := hD
    refine pz_iinc (lv' := [(5, .int (zi (j + 1))), (0, .ref hh), (1, .int (zi (ms.length : Int))), (2, .ref q_2), (3, .ref q_3), (4, .ref q_4)]) hx hb dL_areStanding_62 hl (k := 5) rfl (by decide) rfl (fun ls hl => ?_)
    refine lv_goto (tgt := 22) hx hb dL_areStanding_65 (by decide) ?_
    exact ih_22 _ _ _ _ ⟨pz_u g1 j.toNat kk, pz_u g2 j.toNat ka, pz_u g3 j.toNat kb, j + 1, κ1_31, rfl, (by first | assumption | omega | rfl), (fun t μ h1 h2 => by unfold pz_u; by_cases e9 : t = j.toNat; (rw [if_pos e9, if_pos e9, if_pos e9]; rw [e9, hμ] at h2; cases h2; exact ⟨rfl, rfl, rfl⟩); (rw [if_neg e9, if_neg e9, if_neg e9]; exact hG t μ (by omega) h2)), hz_32, hP, hD, hS, lv_sub hl [1, 2, 3, 4, 5, 0] rfl⟩ (by omega)
