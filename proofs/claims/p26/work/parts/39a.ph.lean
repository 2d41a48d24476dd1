/-! p26: the law's own walk, in segments -/
theorem pq_ck_op0 {y : Int} (hy : 0 ≤ y) : ∀ ms : List pq_M, pq_ck y (ms.map (pq_op y)) = 0
  | [] => rfl
  | μ :: l => by
    have h := pq_ck_op0 hy l
    show (if (pq_op y μ).2.2.2.2.2.1 = y then 1 else 0) + pq_ck y (l.map (pq_op y)) = 0
    rw [h]
    unfold pq_op
    by_cases q : μ.2.2.2.2.2.1 = y
    · rw [if_pos q, if_neg (by show ¬ (-1 : Int) = y; omega)]; rfl
    · rw [if_neg q, if_neg q]; rfl
theorem pq_fl_notE {T : pq_T} (hT : pq_ok T) {q wr mv nx : Int} (h : (0 ≤ q ∧ q < 2 * pq_n T) ∧ (wr = 0 ∨ wr = 1)) : ¬ pq_E (pq_fl T q.toNat wr mv nx) q := by
  have h2 := hT.1
  have e : pq_w (pq_fl T q.toNat wr mv nx) q.toNat = wr := if_pos rfl
  unfold pq_E
  intro h3
  rw [e] at h3
  omega
theorem pq_ca_fl0 {T : pq_T} (hT : pq_ok T) {q wr mv nx : Int} (h : (0 ≤ q ∧ q < 2 * pq_n T) ∧ (wr = 0 ∨ wr = 1)) : pq_ca (pq_fl T q.toNat wr mv nx) q 0 = wr := (pq_ca_0 (pq_fl_notE hT h)).trans (if_pos rfl)
theorem pq_ca_fl2 {T : pq_T} (hT : pq_ok T) {q wr mv nx : Int} (h : (0 ≤ q ∧ q < 2 * pq_n T) ∧ (wr = 0 ∨ wr = 1)) : pq_ca (pq_fl T q.toNat wr mv nx) q 2 = nx := (pq_ca_2 (pq_fl_notE hT h)).trans (if_pos rfl)
def zs_law : List Cond := ([.code yX7_many cX7_many 2 (some .int), .code yX7_isWithin cX7_isWithin 3 (some .boolean), .methodLink RX7 49 yX7_isWithin, .static yX7_isWithin, .initialized RX7, .code yX7_require cX7_require 1 none, .methodLink RX7 53 yX7_require, .static yX7_require, .fieldLink RX7 148 "Haltingale" "machineCount" "I", .code yX7_countOfKind cX7_countOfKind 4 (some .int), .code yX7_find cX7_find 3 (some (.object "Haltingale$Machine")), .fieldLink RX7 11 "Haltingale" "machines" "[LHaltingale$Machine;", .methodLink RX7 67 yX7_find, .instanceMethod yX7_find, .selects RX7 yX7_find yX7_find, .fieldLink RX7 151 "Haltingale$Machine" "kind" "I", .methodLink RX7 252 yX7_countOfKind, .instanceMethod yX7_countOfKind, .selects RX7 yX7_countOfKind yX7_countOfKind, .fieldLink RX7 122 "Haltingale" "tagCount" "I", .fieldLink RX7 136 "Haltingale" "givenCount" "I", .fieldLink RX7 142 "Haltingale" "takenCount" "I", .fieldLink RX7 255 "Haltingale" "takenBackCount" "I", .code yX7_countEmptyCells cX7_countEmptyCells 3 (some .int), .code yX3_countEmpty cX3_countEmpty 3 (some .int), .code yX3_countCells cX3_countCells 1 (some .int), .fieldLink RX3 9 "Haltingale$Machine" "states" "I", .methodLink RX3 42 yX3_countCells, .instanceMethod yX3_countCells, .initialized RX3, .selects RX3 yX3_countCells yX3_countCells, .code yX3_isEmpty cX3_isEmpty 2 (some .boolean), .fieldLink RX3 15 "Haltingale$Machine" "writes" "[I", .methodLink RX3 34 yX3_isEmpty, .instanceMethod yX3_isEmpty, .selects RX3 yX3_isEmpty yX3_isEmpty, .methodLink RX7 98 yX3_countEmpty, .instanceMethod yX3_countEmpty, .selects RX3 yX3_countEmpty yX3_countEmpty, .methodLink RX7 258 yX7_countEmptyCells, .instanceMethod yX7_countEmptyCells, .selects RX7 yX7_countEmptyCells yX7_countEmptyCells, .methodLink RL 33 yX7_many, .instanceMethod yX7_many, .selects RX7 yX7_many yX7_many, .code yL_isSo cL_isSo 9 (some .boolean), .arrayClass .int, .code yX7_champion cX7_champion 7 (some .int), .code yX7_asItStops cX7_asItStops 3 (some .int), .fieldLink RX7 24 "Haltingale" "walk" "LHaltingale$Walk;", .code yX6_run cX6_run 4 none, .code yX6_begin cX6_begin 2 none, .fieldLink RX6 15 "Haltingale$Walk" "least" "I", .fieldLink RX6 19 "Haltingale$Walk" "greatest" "I", .fieldLink RX6 26 "Haltingale$Walk" "done" "I", .fieldLink RX6 29 "Haltingale$Walk" "state" "I", .fieldLink RX6 32 "Haltingale$Walk" "place" "I", .code yX6_put cX6_put 3 none, .fieldLink RX6 9 "Haltingale$Walk" "tape" "[I", .methodLink RX6 22 yX6_put, .instanceMethod yX6_put, .initialized RX6, .selects RX6 yX6_put yX6_put, .methodLink RX6 35 yX6_begin, .instanceMethod yX6_begin, .selects RX6 yX6_begin yX6_begin, .code yX6_step cX6_step 3 (some .boolean), .code yX6_read cX6_read 2 (some .int), .methodLink RX6 42 yX6_read, .instanceMethod yX6_read, .selects RX6 yX6_read yX6_read, .code yX6_hasStopped cX6_hasStopped 2 (some .boolean), .fieldLink RX6 73 "Haltingale$Machine" "states" "I", .methodLink RX6 46 yX6_hasStopped, .instanceMethod yX6_hasStopped, .selects RX6 yX6_hasStopped yX6_hasStopped, .methodLink RX6 49 yX3_isEmpty, .code yX3_writeOf cX3_writeOf 2 (some .int), .methodLink RX6 55 yX3_writeOf, .instanceMethod yX3_writeOf, .selects RX3 yX3_writeOf yX3_writeOf, .code yX3_moveOf cX3_moveOf 2 (some .int), .fieldLink RX3 19 "Haltingale$Machine" "moves" "[I", .methodLink RX6 58 yX3_moveOf, .instanceMethod yX3_moveOf, .selects RX3 yX3_moveOf yX3_moveOf, .code yX3_nextOf cX3_nextOf 2 (some .int), .fieldLink RX3 22 "Haltingale$Machine" "nexts" "[I", .methodLink RX6 61 yX3_nextOf, .instanceMethod yX3_nextOf, .selects RX3 yX3_nextOf yX3_nextOf, .methodLink RX6 64 Lib.Math.min.name, .static Lib.Math.min.name, .initialized "java/lang/Math", .code Lib.Math.min.name Lib.Math.min.code 2 (some .int), .methodLink RX6 70 Lib.Math.max.name, .static Lib.Math.max.name, .code Lib.Math.max.name Lib.Math.max.code 2 (some .int), .methodLink RX6 38 yX6_step, .instanceMethod yX6_step, .selects RX6 yX6_step yX6_step, .methodLink RX7 154 yX6_run, .instanceMethod yX6_run, .selects RX6 yX6_run yX6_run, .methodLink RX7 158 yX6_hasStopped, .code yX6_countOnes cX6_countOnes 3 (some .int), .methodLink RX7 209 yX6_countOnes, .instanceMethod yX6_countOnes, .selects RX6 yX6_countOnes yX6_countOnes, .fieldLink RX7 161 "Haltingale$Walk" "done" "I", .fieldLink RX7 206 "Haltingale$Walk" "place" "I", .methodLink RX7 332 Lib.Math.abs.name, .static Lib.Math.abs.name, .code Lib.Math.abs.name Lib.Math.abs.code 1 (some .int), .methodLink RX7 200 yX7_asItStops, .instanceMethod yX7_asItStops, .selects RX7 yX7_asItStops yX7_asItStops, .methodLink RL 94 yX7_champion, .instanceMethod yX7_champion, .selects RX7 yX7_champion yX7_champion, .code yX7_ofMachine cX7_ofMachine 4 (some .int), .fieldLink RX7 107 "Haltingale$Machine" "states" "I", .fieldLink RX7 194 "Haltingale$Machine" "a" "I", .fieldLink RX7 197 "Haltingale$Machine" "b" "I", .code yX7_countWays cX7_countWays 2 (some .int), .code yX6_isHanging cX6_isHanging 2 (some .boolean), .code yX6_metCell cX6_metCell 1 (some .int), .methodLink RX6 76 yX6_metCell, .instanceMethod yX6_metCell, .selects RX6 yX6_metCell yX6_metCell, .methodLink RX7 326 yX6_isHanging, .instanceMethod yX6_isHanging, .selects RX6 yX6_isHanging yX6_isHanging, .code yX3_countFillings cX3_countFillings 3 (some .int), .methodLink RX3 55 Lib.Math.min.name, .code yX3_isEnd cX3_isEnd 2 (some .boolean), .methodLink RX3 38 yX3_nextOf, .methodLink RX3 46 yX3_isEnd, .instanceMethod yX3_isEnd, .selects RX3 yX3_isEnd yX3_isEnd, .methodLink RX3 49 Lib.Math.max.name, .methodLink RX7 329 yX3_countFillings, .instanceMethod yX3_countFillings, .selects RX3 yX3_countFillings yX3_countFillings, .methodLink RX7 104 yX7_countWays, .instanceMethod yX7_countWays, .selects RX7 yX7_countWays yX7_countWays, .methodLink RL 36 yX7_ofMachine, .instanceMethod yX7_ofMachine, .selects RX7 yX7_ofMachine yX7_ofMachine, .code yX7_meanStop cX7_meanStop 5 (some .double), .methodLink RL 97 yX7_meanStop, .instanceMethod yX7_meanStop, .selects RX7 yX7_meanStop yX7_meanStop, .constantDouble RL 101 (4547007122018943789), .code yX7_cell cX7_cell 7 (some .int), .code yX7_findCell cX7_findCell 3 (some .int), .methodLink RX7 71 yX7_findCell, .static yX7_findCell, .methodLink RX7 79 yX3_isEmpty, .methodLink RX7 178 yX3_writeOf, .methodLink RX7 182 yX3_moveOf, .methodLink RX7 185 Lib.Math.max.name, .methodLink RX7 191 yX3_nextOf, .methodLink RL 49 yX7_cell, .instanceMethod yX7_cell, .selects RX7 yX7_cell yX7_cell, .methodLink RL 63 yL_isSo, .static yL_isSo, .initialized RL, .code yX7_digest cX7_digest 4 (some .long), .constantLong RX7 261 (58237), .constantLong RX7 263 (31), .methodLink RX7 279 yX7_champion, .code yX7_digestTable cX7_digestTable 10 (some .long), .methodLink RX7 285 yX7_cell, .methodLink RX7 282 yX7_ofMachine, .methodLink RX7 268 yX7_digestTable, .instanceMethod yX7_digestTable, .selects RX7 yX7_digestTable yX7_digestTable, .code yX7_digestRuns cX7_digestRuns 7 (some .long), .fieldLink RX7 31 "Haltingale" "cycles" "LHaltingale$Cycles;", .code yX1_smallestCode cX1_smallestCode 7 (some .int), .code yX1_standBehind cX1_standBehind 3 (some .boolean), .fieldLink RX1 12 "Haltingale$Cycles" "early" "LHaltingale$Walk;", .methodLink RX1 33 yX6_run, .fieldLink RX1 18 "Haltingale$Cycles" "late" "LHaltingale$Walk;", .fieldLink RX1 37 "Haltingale$Walk" "place" "I", .fieldLink RX1 41 "Haltingale$Cycles" "least" "I", .fieldLink RX1 44 "Haltingale$Cycles" "greatest" "I", .fieldLink RX1 47 "Haltingale$Walk" "done" "I", .methodLink RX1 21 yX1_standBehind, .instanceMethod yX1_standBehind, .initialized RX1, .selects RX1 yX1_standBehind yX1_standBehind, .code yX1_goFurther cX1_goFurther 2 (some .boolean), .methodLink RX1 50 yX6_step, .methodLink RX1 53 Lib.Math.min.name, .methodLink RX1 59 Lib.Math.max.name, .methodLink RX1 25 yX1_goFurther, .instanceMethod yX1_goFurther, .selects RX1 yX1_goFurther yX1_goFurther, .code yX1_repeats cX1_repeats 5 (some .boolean), .fieldLink RX1 62 "Haltingale$Walk" "state" "I", .fieldLink RX1 65 "Haltingale$Walk" "least" "I", .fieldLink RX1 66 "Haltingale$Walk" "greatest" "I", .methodLink RX1 67 yX6_read, .methodLink RX1 29 yX1_repeats, .instanceMethod yX1_repeats, .selects RX1 yX1_repeats yX1_repeats, .methodLink RX7 168 yX1_smallestCode, .instanceMethod yX1_smallestCode, .selects RX1 yX1_smallestCode yX1_smallestCode, .code yX7_smallestBack cX7_smallestBack 3 (some .int), .fieldLink RX7 38 "Haltingale" "back" "LHaltingale$Back;", .code yX0_emptyDepth cX0_emptyDepth 3 (some .int), .code yX0_takeEnds cX0_takeEnds 3 none, .fieldLink RX0 12 "Haltingale$Back" "rows" "LHaltingale$Rows;", .fieldLink RX0 29 "Haltingale$Rows" "count" "I", .methodLink RX0 33 yX3_countCells, .methodLink RX0 39 yX3_isEnd, .code yX4_add cX4_add 6 (some .boolean), .fieldLink RX4 24 "Haltingale$Rows" "count" "I", .code yX4_bitOf cX4_bitOf 1 (some .int), .methodLink RX4 28 yX4_bitOf, .static yX4_bitOf, .initialized RX4, .fieldLink RX4 9 "Haltingale$Rows" "states" "[I", .fieldLink RX4 15 "Haltingale$Rows" "places" "[I", .fieldLink RX4 18 "Haltingale$Rows" "known" "[I", .fieldLink RX4 21 "Haltingale$Rows" "ones" "[I", .methodLink RX0 43 yX4_add, .instanceMethod yX4_add, .selects RX4 yX4_add yX4_add, .methodLink RX0 21 yX0_takeEnds, .instanceMethod yX0_takeEnds, .initialized RX0, .selects RX0 yX0_takeEnds yX0_takeEnds, .code yX0_goBack cX0_goBack 5 (some .boolean), .fieldLink RX0 18 "Haltingale$Back" "spare" "LHaltingale$Rows;", .code yX0_canLead cX0_canLead 6 (some .boolean), .methodLink RX0 65 yX3_isEmpty, .methodLink RX0 68 yX3_nextOf, .fieldLink RX0 71 "Haltingale$Rows" "states" "[I", .fieldLink RX0 51 "Haltingale$Rows" "places" "[I", .methodLink RX0 55 yX3_moveOf, .methodLink RX0 74 yX4_bitOf, .fieldLink RX0 62 "Haltingale$Rows" "ones" "[I", .fieldLink RX0 59 "Haltingale$Rows" "known" "[I", .methodLink RX0 77 yX3_writeOf, .methodLink RX0 47 yX0_canLead, .instanceMethod yX0_canLead, .selects RX0 yX0_canLead yX0_canLead, .methodLink RX0 25 yX0_goBack, .instanceMethod yX0_goBack, .selects RX0 yX0_goBack yX0_goBack, .methodLink RX7 320 yX0_emptyDepth, .instanceMethod yX0_emptyDepth, .selects RX0 yX0_emptyDepth yX0_emptyDepth, .code yX7_goesOnFor cX7_goesOnFor 3 (some .boolean), .methodLink RX7 323 yX7_goesOnFor, .instanceMethod yX7_goesOnFor, .selects RX7 yX7_goesOnFor yX7_goesOnFor, .methodLink RX7 172 yX7_smallestBack, .instanceMethod yX7_smallestBack, .selects RX7 yX7_smallestBack yX7_smallestBack, .code yX7_at cX7_at 5 (some .int), .fieldLink RX7 203 "Haltingale$Walk" "state" "I", .code yX6_countRuns cX6_countRuns 3 (some .int), .methodLink RX7 212 yX6_countRuns, .instanceMethod yX6_countRuns, .selects RX6 yX6_countRuns yX6_countRuns, .fieldLink RX7 215 "Haltingale$Walk" "least" "I", .fieldLink RX7 218 "Haltingale$Walk" "greatest" "I", .code yX6_eighths cX6_eighths 2 (some .int), .methodLink RX6 80 yX6_countOnes, .methodLink RX7 221 yX6_eighths, .instanceMethod yX6_eighths, .selects RX6 yX6_eighths yX6_eighths, .methodLink RX7 289 yX7_at, .instanceMethod yX7_at, .selects RX7 yX7_at yX7_at, .methodLink RX7 272 yX7_digestRuns, .instanceMethod yX7_digestRuns, .selects RX7 yX7_digestRuns yX7_digestRuns, .methodLink RX7 265 yX7_many, .methodLink RL 67 yX7_digest, .instanceMethod yX7_digest, .selects RX7 yX7_digest yX7_digest, .code yL_areStanding cL_areStanding 6 (some .boolean), .code yX7_prove cX7_prove 6 (some .boolean), .code yX7_isCertificate cX7_isCertificate 3 (some .boolean), .methodLink RX7 130 yX7_isCertificate, .static yX7_isCertificate, .code yX7_requireOpen cX7_requireOpen 1 none, .methodLink RX7 133 yX7_requireOpen, .static yX7_requireOpen, .code yX7_isTaken cX7_isTaken 5 (some .boolean), .code yX1_isCycle cX1_isCycle 5 (some .boolean), .methodLink RX7 310 yX1_isCycle, .instanceMethod yX1_isCycle, .selects RX1 yX1_isCycle yX1_isCycle, .code yX7_isBack cX7_isBack 4 (some .boolean), .methodLink RX7 314 yX7_isBack, .instanceMethod yX7_isBack, .selects RX7 yX7_isBack yX7_isBack, .fieldLink RX7 45 "Haltingale" "gram" "LHaltingale$Gram;", .code yX2_isClosed cX2_isClosed 5 (some .boolean), .code yX2_clear cX2_clear 3 none, .fieldLink RX2 45 "Haltingale$Gram" "width" "I", .fieldLink RX2 38 "Haltingale$Gram" "count" "I", .fieldLink RX2 19 "Haltingale$Gram" "lefts" "[Z", .code yX2_addRow cX2_addRow 3 none, .fieldLink RX2 34 "Haltingale$Gram" "isNew" "Z", .methodLink RX2 48 yX2_addRow, .instanceMethod yX2_addRow, .initialized RX2, .selects RX2 yX2_addRow yX2_addRow, .fieldLink RX2 22 "Haltingale$Gram" "rights" "[Z", .code yX2_addWindow cX2_addWindow 5 none, .fieldLink RX2 9 "Haltingale$Gram" "isFound" "[Z", .fieldLink RX2 15 "Haltingale$Gram" "found" "[I", .methodLink RX2 52 yX2_addWindow, .instanceMethod yX2_addWindow, .selects RX2 yX2_addWindow yX2_addWindow, .methodLink RX2 29 yX2_clear, .instanceMethod yX2_clear, .selects RX2 yX2_clear yX2_clear, .constant RX2 33 (1000000), .code yX2_spread cX2_spread 13 (some .boolean), .methodLink RX2 56 yX3_isEnd, .methodLink RX2 62 yX3_moveOf, .methodLink RX2 66 yX3_nextOf, .methodLink RX2 69 yX3_writeOf, .code yX2_hasRow cX2_hasRow 3 (some .boolean), .methodLink RX2 72 yX2_hasRow, .instanceMethod yX2_hasRow, .selects RX2 yX2_hasRow yX2_hasRow, .methodLink RX2 42 yX2_spread, .instanceMethod yX2_spread, .selects RX2 yX2_spread yX2_spread, .methodLink RX7 317 yX2_isClosed, .instanceMethod yX2_isClosed, .selects RX2 yX2_isClosed yX2_isClosed, .methodLink RX7 139 yX7_isTaken, .instanceMethod yX7_isTaken, .selects RX7 yX7_isTaken yX7_isTaken, .code yX3_settle cX3_settle 4 none, .fieldLink RX3 25 "Haltingale$Machine" "kind" "I", .fieldLink RX3 28 "Haltingale$Machine" "a" "I", .fieldLink RX3 31 "Haltingale$Machine" "b" "I", .methodLink RX7 145 yX3_settle, .instanceMethod yX3_settle, .selects RX3 yX3_settle yX3_settle, .methodLink RL 74 yX7_prove, .instanceMethod yX7_prove, .selects RX7 yX7_prove yX7_prove, .code yX7_doubt cX7_doubt 5 (some .int), .code yX7_takeBack cX7_takeBack 2 (some .boolean), .methodLink RX7 94 yX7_takeBack, .instanceMethod yX7_takeBack, .selects RX7 yX7_takeBack yX7_takeBack, .methodLink RL 46 yX7_doubt, .instanceMethod yX7_doubt, .selects RX7 yX7_doubt yX7_doubt, .methodLink RL 71 yL_areStanding, .static yL_areStanding, .code yL_below cL_below 2 (some .int), .constant RL 7 (2147483647), .methodLink RL 9 yL_below, .static yL_below, .code yL_isStep cL_isStep 15 (some .boolean), .methodLink RL 79 yX7_at, .code yX7_symbol cX7_symbol 5 (some .int), .methodLink RX7 224 yX6_read, .methodLink RL 83 yX7_symbol, .instanceMethod yX7_symbol, .selects RX7 yX7_symbol yX7_symbol, .methodLink RL 86 Lib.Math.min.name, .methodLink RL 91 Lib.Math.max.name, .methodLink RL 59 yL_isStep, .static yL_isStep, .code yX7_decide cX7_decide 6 (some .int), .code yX2_smallestWidth cX2_smallestWidth 3 (some .int), .methodLink RX2 25 yX2_isClosed, .methodLink RX7 175 yX2_smallestWidth, .instanceMethod yX2_smallestWidth, .selects RX2 yX2_smallestWidth yX2_smallestWidth, .code yX7_decideBy cX7_decideBy 4 (some .int), .methodLink RX7 164 yX7_decideBy, .static yX7_decideBy, .methodLink RL 43 yX7_decide, .instanceMethod yX7_decide, .selects RX7 yX7_decide yX7_decide, .code yX7_child cX7_child 5 (some .int), .code yX7_requireRoomForMachine cX7_requireRoomForMachine 1 none, .methodLink RX7 57 yX7_requireRoomForMachine, .instanceMethod yX7_requireRoomForMachine, .selects RX7 yX7_requireRoomForMachine yX7_requireRoomForMachine, .classLink RX7 9 RX3, .instantiable RX3 7, .code yX3_init cX3_init 3 none, .methodLink RX3 3 objectInit, .instanceMethod objectInit, .code objectInit ⟨#[0xb1]⟩ 1 none, .methodLink RX7 60 yX3_init, .instanceMethod yX3_init, .code yX3_copy cX3_copy 3 none, .methodLink RX7 111 yX3_copy, .instanceMethod yX3_copy, .selects RX3 yX3_copy yX3_copy, .methodLink RX7 115 yX6_metCell, .code yX3_fillByWay cX3_fillByWay 4 none, .code yX3_fill cX3_fill 5 none, .methodLink RX3 58 yX3_fill, .instanceMethod yX3_fill, .selects RX3 yX3_fill yX3_fill, .methodLink RX7 118 yX3_fillByWay, .instanceMethod yX3_fillByWay, .selects RX3 yX3_fillByWay yX3_fillByWay, .code yX7_append cX7_append 2 (some .int), .methodLink RX7 63 yX7_append, .instanceMethod yX7_append, .selects RX7 yX7_append yX7_append, .methodLink RL 56 yX7_child, .instanceMethod yX7_child, .selects RX7 yX7_child yX7_child, .code yX7_amend cX7_amend 9 (some .boolean), .code yX7_isFilling cX7_isFilling 4 (some .boolean), .methodLink RX7 75 yX7_isFilling, .static yX7_isFilling, .methodLink RX7 90 yX3_fill, .methodLink RL 52 yX7_amend, .instanceMethod yX7_amend, .selects RX7 yX7_amend yX7_amend, .code yX7_tell cX7_tell 9 (some .int), .methodLink RL 21 yX7_tell, .instanceMethod yX7_tell, .selects RX7 yX7_tell yX7_tell, .codeWith yL_prove cL_prove 6 (some .int) [(0, 17, 18, 77)], .methodLink RL 39 yL_prove, .static yL_prove, .instantiable "java/lang/IllegalStateException" 6, .classLink RX7 83 "java/lang/IllegalStateException", .initialized "java/lang/IllegalStateException", .classLink RL 77 "java/lang/IllegalStateException", .code yL_cell cL_cell 2 (some .int), .constant RL 8 (790386105), .methodLink RL 26 yL_cell, .static yL_cell, .classLink RL 16 RX7, .instantiable RX7 11, .code yX7_init cX7_init 1 none, .methodLink RX7 3 objectInit, .classLink RX7 15 RX5, .fieldLink RX7 17 "Haltingale" "tags" "[LHaltingale$Tag;", .classLink RX7 21 RX6, .instantiable RX6 6, .code yX6_init cX6_init 1 none, .methodLink RX6 3 objectInit, .methodLink RX7 23 yX6_init, .instanceMethod yX6_init, .classLink RX7 28 RX1, .instantiable RX1 4, .code yX1_init cX1_init 1 none, .methodLink RX1 3 objectInit, .classLink RX1 9 RX6, .methodLink RX1 11 yX6_init, .methodLink RX7 30 yX1_init, .instanceMethod yX1_init, .classLink RX7 35 RX0, .instantiable RX0 2, .code yX0_init cX0_init 1 none, .methodLink RX0 3 objectInit, .classLink RX0 9 RX4, .instantiable RX4 5, .code yX4_init cX4_init 1 none, .methodLink RX4 3 objectInit, .methodLink RX0 11 yX4_init, .instanceMethod yX4_init, .methodLink RX7 37 yX0_init, .instanceMethod yX0_init, .classLink RX7 42 RX2, .instantiable RX2 7, .code yX2_init cX2_init 1 none, .methodLink RX2 3 objectInit, .arrayClass .boolean, .methodLink RX7 44 yX2_init, .instanceMethod yX2_init, .methodLink RL 25 yX7_init, .instanceMethod yX7_init, .code yL_machine cL_machine 9 (some .int), .code yX7_machine cX7_machine 2 (some .int), .methodLink RL 15 yX7_machine, .instanceMethod yX7_machine, .selects RX7 yX7_machine yX7_machine, .methodLink RL 30 yL_machine, .static yL_machine] : List Cond) ++ wsX70 ++ wsX30 ++ wsX60 ++ wsX10 ++ wsX00 ++ wsX40 ++ wsX20 ++ (vx_atS RX7 87 "java/lang/IllegalStateException" ["java/lang/RuntimeException", "java/lang/Exception"]).filter goodWord
theorem zs_law_in : ∀ w ∈ zs_law, w ∈ lw_tbl := by decide +kernel
set_option maxHeartbeats 4000000 in
set_option maxRecDepth 100000 in
theorem law_752 {p : Program} {l : Launch} {e : Env} {s : State} {m : MethodId} {below : List Frame} {meth : Method} {c : Code} {dC : Nat → ClassId} {dI : Nat → Nat → Nat} {cI cZ cM cT : ClassId} (hnt : l.stackTraces = false) {a0 b L hh : Nat} {xs : Nat → Int32} (hL : L ≤ 260) (C0 : lw_At p s m meth c b L xs) (hts : ∀ w ∈ zs_law, w.before #[Value.ref b] s = true) {A : Nat → Prop} (hA : ∀ q : Nat, s.heap.size ≤ q → A q) (hA2 : ∀ q : Nat, A q → s.heap.size ≤ q) (hZ : zB a0 A s s.heap) (hK : va_K (dC, dI) vwCl (zT4 cI cZ cM cT) s) {j : Int} (hj : 0 ≤ j ∧ j < 50) {k0 n0 : Nat} (hk0 : k0 ≤ 650 ∧ n0 ≤ 15500) (K62 : ∀ (ms : List pq_M) (gv tn tb : Int) (κ : pq_S) (k1 n1 : Nat) (H : Heap) (locs : List Loc) (ls : Array Slot), k1 ≤ k0 + 10 → n1 ≤ n0 + 100 → pq_mo ms → 1 ≤ ms.length → pq_Sok κ → va_P (dC, dI) vwCl ([] ++ (pq_WD cI cZ cM cT hh ms gv tn tb κ)) H → va_D A ([] ++ (pq_WD cI cZ cM cT hh ms gv tn tb κ)) → va_S A s.heap H locs → lv_has ls 14 [(0, .ref b), (1, .ref hh), (2, .int (zi gv)), (3, .int (zi tn)), (4, .int (zi (j + 1)))] → W p l e room_1 s m #[Value.ref b] below meth c H locs k1 n1 (lw_Z below #[Value.ref b] s) (F0 m 62 ls [])) : ∀ (ms : List pq_M) (gv tn tb : Int) (κ : pq_S) (k1 n1 : Nat) (H : Heap) (locs : List Loc) (ls : Array Slot), k1 ≤ k0 + 6 → n1 ≤ n0 + 40 → pq_mo ms → 1 ≤ ms.length → pq_Sok κ → va_P (dC, dI) vwCl ([] ++ (pq_WD cI cZ cM cT hh ms gv tn tb κ)) H → va_D A ([] ++ (pq_WD cI cZ cM cT hh ms gv tn tb κ)) → va_S A s.heap H locs → lv_has ls 14 [(0, .ref b), (1, .ref hh), (2, .int (zi gv)), (3, .int (zi tn)), (4, .int (zi j))] → W p l e room_1 s m #[Value.ref b] below meth c H locs k1 n1 (lw_Z below #[Value.ref b] s) (F0 m 752 ls []) := by
  intro ms gv tn tb κ k1 n1 H locs ls hk1_ hn1_ hms hlen hκ hP hD hS hl
  obtain ⟨hx, hb, hr, hml, hown, -, hX0, hbl, hlocks, hgv⟩ := id C0
  have hown : s.vm.findClass RL = some m.cls := hown
  have hX : zX A b L xs s s.heap := ⟨hX0, fun h => absurd (hA2 b h) (Nat.not_le.mpr hbl), hbl⟩
  have hR1 : 600000 ≤ room_1.cells := Nat.le_of_ble_eq_true rfl
  have hR2 : 7300000 ≤ room_1.slots := Nat.le_of_ble_eq_true rfl
  have hms12 := hms.1
  refine lv_aload_n hx hb dL_law_752 rfl (lv_at hl 1 rfl) ?_
  refine lv_bipush (v := zi 7) hx hb dL_law_753 (by decide) ?_
  have hPc := hP.part (cx := []) [] rfl
  have hDc := hD.part (cx := []) [] (by decide) rfl
  have hFc := va_freeP (cx := []) hD hS hA [] rfl
  refine va_calli (va_runV (As := [.int (zi 7)]) (rest := []) ⟨hx, hb, hml, hown, hts⟩ (c_X7_many l dC dI cI cZ cM cT H.size hh ms gv tn tb κ 7 (by first | assumption | omega | rfl) hκ (by first | assumption | omega | rfl)) (cwV 1 hts (goodIn_of _ (by decide +kernel)) rfl rfl rfl (by decide +kernel) ⟨(by first | exact Nat.le_of_ble_eq_true rfl | omega), (by first | exact Nat.le_of_ble_eq_true rfl | omega)⟩) ⟨fun a U g mk q => by obtain ⟨q0, q1, qP, qK, qD⟩ := q; exact ⟨q0, q1, qP, va_K.moved (u := U) (U := U.calling g mk a) (Vm.Alike.refl U.vm) qK, qD⟩, va_recv hK hPc (ci := 6) (q0 := 0) rfl rfl, fun U hU hW => ⟨rfl, by rw [hU], by rw [hU]; exact hPc, va_K.moved hW.alike hK, hDc.weaken (fun _ _ _ _ => trivial)⟩⟩ rfl rfl hl.1 rfl (lv_room (by first | exact Nat.le_of_ble_eq_true rfl | omega)) dL_law_755 ⟨(by first | exact Nat.le_of_ble_eq_true rfl | omega), (by first | exact Nat.le_of_ble_eq_true rfl | omega)⟩) hS (fun q _ h => hFc q h) hFc (fun r_1 u t H1 locs ht hvm hw hB hz1 hk1 hS => ?_)
  obtain ⟨hP1, hK1, hD1⟩ := hB
  rw [ht] at hP1
  obtain ⟨hP, hD⟩ := va_joinP (wr := []) (rx := []) (pl1 := (pq_WD cI cZ cM cT hh ms gv tn tb κ)) hP hD [] [] rfl rfl (by decide) (by decide) hk1 hFc hP1 hD1
  generalize H1 = H at hP hS ⊢
  have hP : va_P (dC, dI) vwCl ([] ++ (pq_WD cI cZ cM cT hh ms gv tn tb κ)) H := hP
  have hD : va_D A ([] ++ (pq_WD cI cZ cM cT hh ms gv tn tb κ)) := hD
  refine W.widen (k := k1) (n := n1) (by first | exact Nat.le_of_ble_eq_true rfl | omega) (by first | exact Nat.le_of_ble_eq_true rfl | omega) ?_
  obtain rfl : r_1 = zi (pq_ma ms gv tn tb (7 : Int)) := hw
  refine pz_top (y := zi gv) (congrArg zi (rfl)) ?_
  refine lv_iload_n hx hb dL_law_758 rfl (lv_at hl 2 rfl) ?_
  refine lv_icmp_ne (tgt := 787) hx hb dL_law_759 (by decide) (fun h => absurd (congrArg zi (show gv = gv from rfl)) h) (fun _ => ?_)
  refine lv_aload_n hx hb dL_law_762 rfl (lv_at hl 1 rfl) ?_
  refine lv_bipush (v := zi 8) hx hb dL_law_763 (by decide) ?_
  have hPc := hP.part (cx := []) [] rfl
  have hDc := hD.part (cx := []) [] (by decide) rfl
  have hFc := va_freeP (cx := []) hD hS hA [] rfl
  refine va_calli (va_runV (As := [.int (zi 8)]) (rest := []) ⟨hx, hb, hml, hown, hts⟩ (c_X7_many l dC dI cI cZ cM cT H.size hh ms gv tn tb κ 8 (by first | assumption | omega | rfl) hκ (by first | assumption | omega | rfl)) (cwV 1 hts (goodIn_of _ (by decide +kernel)) rfl rfl rfl (by decide +kernel) ⟨(by first | exact Nat.le_of_ble_eq_true rfl | omega), (by first | exact Nat.le_of_ble_eq_true rfl | omega)⟩) ⟨fun a U g mk q => by obtain ⟨q0, q1, qP, qK, qD⟩ := q; exact ⟨q0, q1, qP, va_K.moved (u := U) (U := U.calling g mk a) (Vm.Alike.refl U.vm) qK, qD⟩, va_recv hK hPc (ci := 6) (q0 := 0) rfl rfl, fun U hU hW => ⟨rfl, by rw [hU], by rw [hU]; exact hPc, va_K.moved hW.alike hK, hDc.weaken (fun _ _ _ _ => trivial)⟩⟩ rfl rfl hl.1 rfl (lv_room (by first | exact Nat.le_of_ble_eq_true rfl | omega)) dL_law_765 ⟨(by first | exact Nat.le_of_ble_eq_true rfl | omega), (by first | exact Nat.le_of_ble_eq_true rfl | omega)⟩) hS (fun q _ h => hFc q h) hFc (fun r_2 u t H1 locs ht hvm hw hB hz1 hk1 hS => ?_)
  obtain ⟨hP1, hK1, hD1⟩ := hB
  rw [ht] at hP1
  obtain ⟨hP, hD⟩ := va_joinP (wr := []) (rx := []) (pl1 := (pq_WD cI cZ cM cT hh ms gv tn tb κ)) hP hD [] [] rfl rfl (by decide) (by decide) hk1 hFc hP1 hD1
  generalize H1 = H at hP hS ⊢
  have hP : va_P (dC, dI) vwCl ([] ++ (pq_WD cI cZ cM cT hh ms gv tn tb κ)) H := hP
  have hD : va_D A ([] ++ (pq_WD cI cZ cM cT hh ms gv tn tb κ)) := hD
  refine W.widen (k := k1) (n := n1) (by first | exact Nat.le_of_ble_eq_true rfl | omega) (by first | exact Nat.le_of_ble_eq_true rfl | omega) ?_
  obtain rfl : r_2 = zi (pq_ma ms gv tn tb (8 : Int)) := hw
  refine pz_top (y := zi tn) (congrArg zi (rfl)) ?_
  refine lv_iload_n hx hb dL_law_768 rfl (lv_at hl 3 rfl) ?_
  refine lv_icmp_ne (tgt := 787) hx hb dL_law_769 (by decide) (fun h => absurd (congrArg zi (show tn = tn from rfl)) h) (fun _ => ?_)
  refine lv_iload hx hb dL_law_772 (lv_at hl 4 rfl) ?_
  refine lv_iconst (v := zi 5) hx hb dL_law_774 (by decide) ?_
  refine pz_irem hx hb (by omega) dL_law_775 ?_
  refine lv_iconst (v := zi 4) hx hb dL_law_776 (by decide) ?_
  refine pz_icmp_ne (tgt := 789) hx hb (by omega) dL_law_777 (by decide) (fun c_3 => ?_) (fun c_3 => ?_)
  · refine pz_iinc (lv' := [(4, .int (zi (j + 1))), (0, .ref b), (1, .ref hh), (2, .int (zi gv)), (3, .int (zi tn))]) hx hb dL_law_789 hl (k := 4) rfl (by decide) rfl (fun ls hl => ?_)
    refine lv_goto (tgt := 62) hx hb dL_law_792 (by decide) ?_
    exact K62 _ _ _ _ _ _ _ _ _ _ (by omega) (by omega) hms hlen hκ hP hD hS (lv_sub hl [1, 2, 3, 4, 0] rfl)
  · refine lv_aload_n hx hb dL_law_780 rfl (lv_at hl 1 rfl) ?_
    have hPc := hP.part (cx := []) [] rfl
    have hDc := hD.part (cx := []) [] (by decide) rfl
    have hFc := va_freeP (cx := []) hD hS hA [] rfl
    refine va_calli (va_runS (As := [.ref hh]) (rest := []) ⟨hx, hb, hml, hown, hts⟩ (c_L_isSo l dC dI cI cZ cM cT H.size hh ms gv tn tb κ (by first | assumption | omega | rfl) hκ) (va_cwS 1 hts (goodIn_of _ (by decide +kernel)) rfl rfl rfl (by decide +kernel) ⟨(by first | exact Nat.le_of_ble_eq_true rfl | omega), (by first | exact Nat.le_of_ble_eq_true rfl | omega)⟩) ⟨fun a U g mk q => by obtain ⟨q0, q1, qP, qK, qD⟩ := q; exact ⟨q0, q1, qP, va_K.moved (u := U) (U := U.calling g mk a) (Vm.Alike.refl U.vm) qK, qD⟩, fun U hU hW => ⟨rfl, by rw [hU], by rw [hU]; exact hPc, va_K.moved hW.alike hK, hDc.weaken (fun _ _ _ _ => trivial)⟩⟩ rfl rfl hl.1 rfl (lv_room (by first | exact Nat.le_of_ble_eq_true rfl | omega)) dL_law_781 ⟨(by first | exact Nat.le_of_ble_eq_true rfl | omega), (by first | exact Nat.le_of_ble_eq_true rfl | omega)⟩) hS (fun q _ h => hFc q h) hFc (fun r_4 u t H1 locs ht hvm hw hB hz1 hk1 hS => ?_)
    obtain ⟨κ1_5, hz_6, hP1, hK1, hD1⟩ := hB
    rw [ht] at hP1
    obtain ⟨hP, hD⟩ := va_joinP (wr := []) (rx := []) (pl1 := (pq_WD cI cZ cM cT hh ms gv tn tb κ1_5)) hP hD [] [] rfl rfl (by decide) (by decide) hk1 hFc hP1 hD1
    generalize H1 = H at hP hS ⊢
    have hP : va_P (dC, dI) vwCl ([] ++ (pq_WD cI cZ cM cT hh ms gv tn tb κ1_5)) H := hP
    have hD : va_D A ([] ++ (pq_WD cI cZ cM cT hh ms gv tn tb κ1_5)) := hD
    refine W.widen (k := (k1 + 1)) (n := (n1 + 5)) (by first | exact Nat.le_of_ble_eq_true rfl | omega) (by first | exact Nat.le_of_ble_eq_true rfl | omega) ?_
    obtain rfl : r_4 = zi 1 := hw
    refine pz_if_ne (tgt := 789) hx hb (by omega) dL_law_784 (by decide) (fun c_7 => ?_) (fun c_7 => ?_)
    · refine pz_iinc (lv' := [(4, .int (zi (j + 1))), (0, .ref b), (1, .ref hh), (2, .int (zi gv)), (3, .int (zi tn))]) hx hb dL_law_789 hl (k := 4) rfl (by decide) rfl (fun ls hl => ?_)
      refine lv_goto (tgt := 62) hx hb dL_law_792 (by decide) ?_
      exact K62 _ _ _ _ _ _ _ _ _ _ (by omega) (by omega) hms hlen hz_6 hP hD hS (lv_sub hl [1, 2, 3, 4, 0] rfl)
    · exact absurd c_7 (by omega)

set_option maxHeartbeats 4000000 in
set_option maxRecDepth 100000 in
theorem law_795 {p : Program} {l : Launch} {e : Env} {s : State} {m : MethodId} {below : List Frame} {meth : Method} {c : Code} {dC : Nat → ClassId} {dI : Nat → Nat → Nat} {cI cZ cM cT : ClassId} (hnt : l.stackTraces = false) {a0 b L hh : Nat} {xs : Nat → Int32} (hL : L ≤ 260) (C0 : lw_At p s m meth c b L xs) (hts : ∀ w ∈ zs_law, w.before #[Value.ref b] s = true) {A : Nat → Prop} (hA : ∀ q : Nat, s.heap.size ≤ q → A q) (hA2 : ∀ q : Nat, A q → s.heap.size ≤ q) (hZ : zB a0 A s s.heap) (hK : va_K (dC, dI) vwCl (zT4 cI cZ cM cT) s)  : ∀ (ms : List pq_M) (gv tn tb : Int) (κ : pq_S) (k1 n1 : Nat) (H : Heap) (locs : List Loc) (ls : Array Slot), k1 ≤ 700 → n1 ≤ 16000 → pq_mo ms → 1 ≤ ms.length → pq_Sok κ → va_P (dC, dI) vwCl ([] ++ (pq_WD cI cZ cM cT hh ms gv tn tb κ)) H → va_D A ([] ++ (pq_WD cI cZ cM cT hh ms gv tn tb κ)) → va_S A s.heap H locs → lv_has ls 14 [(0, .ref b), (1, .ref hh)] → W p l e room_1 s m #[Value.ref b] below meth c H locs k1 n1 (lw_Z below #[Value.ref b] s) (F0 m 795 ls []) := by
  intro ms gv tn tb κ k1 n1 H locs ls hk1_ hn1_ hms hlen hκ hP hD hS hl
  obtain ⟨hx, hb, hr, hml, hown, -, hX0, hbl, hlocks, hgv⟩ := id C0
  have hown : s.vm.findClass RL = some m.cls := hown
  have hX : zX A b L xs s s.heap := ⟨hX0, fun h => absurd (hA2 b h) (Nat.not_le.mpr hbl), hbl⟩
  have hR1 : 600000 ≤ room_1.cells := Nat.le_of_ble_eq_true rfl
  have hR2 : 7300000 ≤ room_1.slots := Nat.le_of_ble_eq_true rfl
  have hms12 := hms.1
  refine lv_aload_n hx hb dL_law_795 rfl (lv_at hl 1 rfl) ?_
  have hPc := hP.part (cx := []) [] rfl
  have hDc := hD.part (cx := []) [] (by decide) rfl
  have hFc := va_freeP (cx := []) hD hS hA [] rfl
  refine va_calll (va_runV (As := []) (rest := []) ⟨hx, hb, hml, hown, hts⟩ (c_X7_digest l dC dI cI cZ cM cT H.size hh ms gv tn tb κ (by first | assumption | omega | rfl) hκ) (cwV 0 hts (goodIn_of _ (by decide +kernel)) rfl rfl rfl (by decide +kernel) ⟨(by first | exact Nat.le_of_ble_eq_true rfl | omega), (by first | exact Nat.le_of_ble_eq_true rfl | omega)⟩) ⟨fun a U g mk q => by obtain ⟨q0, q1, qP, qK, qD⟩ := q; exact ⟨q0, q1, qP, va_K.moved (u := U) (U := U.calling g mk a) (Vm.Alike.refl U.vm) qK, qD⟩, va_recv hK hPc (ci := 6) (q0 := 0) rfl rfl, fun U hU hW => ⟨rfl, by rw [hU], by rw [hU]; exact hPc, va_K.moved hW.alike hK, hDc.weaken (fun _ _ _ _ => trivial)⟩⟩ rfl rfl hl.1 rfl (lv_room (by first | exact Nat.le_of_ble_eq_true rfl | omega)) dL_law_796 ⟨(by first | exact Nat.le_of_ble_eq_true rfl | omega), (by first | exact Nat.le_of_ble_eq_true rfl | omega)⟩) hS (fun q _ h => hFc q h) hFc (fun r_1 u t H1 locs ht hvm hw hB hz1 hk1 hS => ?_)
  obtain ⟨κ1_2, hz_3, hP1, hK1, hD1⟩ := hB
  rw [ht] at hP1
  obtain ⟨hP, hD⟩ := va_joinP (wr := []) (rx := []) (pl1 := (pq_WD cI cZ cM cT hh ms gv tn tb κ1_2)) hP hD [] [] rfl rfl (by decide) (by decide) hk1 hFc hP1 hD1
  generalize H1 = H at hP hS ⊢
  have hP : va_P (dC, dI) vwCl ([] ++ (pq_WD cI cZ cM cT hh ms gv tn tb κ1_2)) H := hP
  have hD : va_D A ([] ++ (pq_WD cI cZ cM cT hh ms gv tn tb κ1_2)) := hD
  refine W.widen (k := k1) (n := n1) (by first | exact Nat.le_of_ble_eq_true rfl | omega) (by first | exact Nat.le_of_ble_eq_true rfl | omega) ?_
  obtain rfl : r_1 = pq_dg ms gv tn tb := hw
  refine lv_lstore (lv' := [(4, .long (pq_dg ms gv tn tb)), (0, .ref b), (1, .ref hh)]) hx hb dL_law_799 hl (by decide) rfl (fun ls hl => ?_)
  refine lv_aload_n hx hb dL_law_801 rfl (lv_at hl 2 rfl) ?_
  have hPc := hP.part (cx := []) [] rfl
  have hDc := hD.part (cx := []) [] (by decide) rfl
  have hFc := va_freeP (cx := []) hD hS hA [] rfl
  refine va_calli (va_runS (As := [.ref hh]) (rest := []) ⟨hx, hb, hml, hown, hts⟩ (c_L_isSo l dC dI cI cZ cM cT H.size hh ms gv tn tb κ1_2 (by first | assumption | omega | rfl) hz_3) (va_cwS 1 hts (goodIn_of _ (by decide +kernel)) rfl rfl rfl (by decide +kernel) ⟨(by first | exact Nat.le_of_ble_eq_true rfl | omega), (by first | exact Nat.le_of_ble_eq_true rfl | omega)⟩) ⟨fun a U g mk q => by obtain ⟨q0, q1, qP, qK, qD⟩ := q; exact ⟨q0, q1, qP, va_K.moved (u := U) (U := U.calling g mk a) (Vm.Alike.refl U.vm) qK, qD⟩, fun U hU hW => ⟨rfl, by rw [hU], by rw [hU]; exact hPc, va_K.moved hW.alike hK, hDc.weaken (fun _ _ _ _ => trivial)⟩⟩ rfl rfl hl.1 rfl (lv_room (by first | exact Nat.le_of_ble_eq_true rfl | omega)) dL_law_802 ⟨(by first | exact Nat.le_of_ble_eq_true rfl | omega), (by first | exact Nat.le_of_ble_eq_true rfl | omega)⟩) hS (fun q _ h => hFc q h) hFc (fun r_4 u t H1 locs ht hvm hw hB hz1 hk1 hS => ?_)
  obtain ⟨κ1_5, hz_6, hP1, hK1, hD1⟩ := hB
  rw [ht] at hP1
  obtain ⟨hP, hD⟩ := va_joinP (wr := []) (rx := []) (pl1 := (pq_WD cI cZ cM cT hh ms gv tn tb κ1_5)) hP hD [] [] rfl rfl (by decide) (by decide) hk1 hFc hP1 hD1
  generalize H1 = H at hP hS ⊢
  have hP : va_P (dC, dI) vwCl ([] ++ (pq_WD cI cZ cM cT hh ms gv tn tb κ1_5)) H := hP
  have hD : va_D A ([] ++ (pq_WD cI cZ cM cT hh ms gv tn tb κ1_5)) := hD
  refine W.widen (k := (k1 + 1)) (n := (n1 + 5)) (by first | exact Nat.le_of_ble_eq_true rfl | omega) (by first | exact Nat.le_of_ble_eq_true rfl | omega) ?_
  obtain rfl : r_4 = zi 1 := hw
  refine pz_if_eq (tgt := 829) hx hb (by omega) dL_law_805 (by decide) (fun c_7 => ?_) (fun c_7 => ?_)
  · exact absurd c_7 (by omega)
  · refine lv_aload_n hx hb dL_law_808 rfl (lv_at hl 2 rfl) ?_
    have hPc := hP.part (cx := []) [] rfl
    have hDc := hD.part (cx := []) [] (by decide) rfl
    have hFc := va_freeP (cx := []) hD hS hA [] rfl
    refine va_calll (va_runV (As := []) (rest := []) ⟨hx, hb, hml, hown, hts⟩ (c_X7_digest l dC dI cI cZ cM cT H.size hh ms gv tn tb κ1_5 (by first | assumption | omega | rfl) hz_6) (cwV 0 hts (goodIn_of _ (by decide +kernel)) rfl rfl rfl (by decide +kernel) ⟨(by first | exact Nat.le_of_ble_eq_true rfl | omega), (by first | exact Nat.le_of_ble_eq_true rfl | omega)⟩) ⟨fun a U g mk q => by obtain ⟨q0, q1, qP, qK, qD⟩ := q; exact ⟨q0, q1, qP, va_K.moved (u := U) (U := U.calling g mk a) (Vm.Alike.refl U.vm) qK, qD⟩, va_recv hK hPc (ci := 6) (q0 := 0) rfl rfl, fun U hU hW => ⟨rfl, by rw [hU], by rw [hU]; exact hPc, va_K.moved hW.alike hK, hDc.weaken (fun _ _ _ _ => trivial)⟩⟩ rfl rfl hl.1 rfl (lv_room (by first | exact Nat.le_of_ble_eq_true rfl | omega)) dL_law_809 ⟨(by first | exact Nat.le_of_ble_eq_true rfl | omega), (by first | exact Nat.le_of_ble_eq_true rfl | omega)⟩) hS (fun q _ h => hFc q h) hFc (fun r_8 u t H1 locs ht hvm hw hB hz1 hk1 hS => ?_)
    obtain ⟨κ1_9, hz_10, hP1, hK1, hD1⟩ := hB
    rw [ht] at hP1
    obtain ⟨hP, hD⟩ := va_joinP (wr := []) (rx := []) (pl1 := (pq_WD cI cZ cM cT hh ms gv tn tb κ1_9)) hP hD [] [] rfl rfl (by decide) (by decide) hk1 hFc hP1 hD1
    generalize H1 = H at hP hS ⊢
    have hP : va_P (dC, dI) vwCl ([] ++ (pq_WD cI cZ cM cT hh ms gv tn tb κ1_9)) H := hP
    have hD : va_D A ([] ++ (pq_WD cI cZ cM cT hh ms gv tn tb κ1_9)) := hD
    refine W.widen (k := (k1 + 1)) (n := (n1 + 5)) (by first | exact Nat.le_of_ble_eq_true rfl | omega) (by first | exact Nat.le_of_ble_eq_true rfl | omega) ?_
    obtain rfl : r_8 = pq_dg ms gv tn tb := hw
    refine lv_lload hx hb dL_law_812 (lv_at hl 0 rfl) ?_
    refine W.lcmp hx hb dL_law_814 ?_
    refine lv_topi (fun x_11 ex_11 => ?_)
    obtain rfl : x_11 = zi 0 := ex_11.trans (by first | rfl | (simp; rfl) | simp)
    refine pz_if_ne (tgt := 829) hx hb (by omega) dL_law_815 (by decide) (fun c_12 => ?_) (fun c_12 => ?_)
    · exact absurd c_12 (by omega)
    · refine lv_aload_n hx hb dL_law_818 rfl (lv_at hl 2 rfl) ?_
      have hPc := hP.part (cx := []) [] rfl
      have hDc := hD.part (cx := []) [] (by decide) rfl
      have hFc := va_freeP (cx := []) hD hS hA [] rfl
      refine va_calli (va_runS (As := [.ref hh]) (rest := []) ⟨hx, hb, hml, hown, hts⟩ (c_L_areStanding l dC dI cI cZ cM cT H.size hh ms gv tn tb κ1_9 (by first | assumption | omega | rfl) hz_10) (va_cwS 1 hts (goodIn_of _ (by decide +kernel)) rfl rfl rfl (by decide +kernel) ⟨(by first | exact Nat.le_of_ble_eq_true rfl | omega), (by first | exact Nat.le_of_ble_eq_true rfl | omega)⟩) ⟨fun a U g mk q => by obtain ⟨q0, q1, qP, qK, qD⟩ := q; exact ⟨q0, q1, qP, va_K.moved (u := U) (U := U.calling g mk a) (Vm.Alike.refl U.vm) qK, qD⟩, fun U hU hW => ⟨rfl, by rw [hU], by rw [hU]; exact hPc, va_K.moved hW.alike hK, hDc.weaken (fun _ _ _ _ => trivial)⟩⟩ rfl rfl hl.1 rfl (lv_room (by first | exact Nat.le_of_ble_eq_true rfl | omega)) dL_law_819 ⟨(by first | exact Nat.le_of_ble_eq_true rfl | omega), (by first | exact Nat.le_of_ble_eq_true rfl | omega)⟩) hS (fun q _ h => hFc q h) hFc (fun r_13 u t H1 locs ht hvm hw hB hz1 hk1 hS => ?_)
      obtain ⟨κ1_14, ms1_15, gv1_16, tn1_17, tb1_18, hz_19, hP1, hK1, hD1⟩ := hB
      rw [ht] at hP1
      obtain ⟨hP, hD⟩ := va_joinP (wr := []) (rx := []) (pl1 := (pq_WD cI cZ cM cT hh ms1_15 gv1_16 tn1_17 tb1_18 κ1_14)) hP hD [] [] rfl rfl (by decide) (by decide) hk1 hFc hP1 hD1
      generalize H1 = H at hP hS ⊢
      have hP : va_P (dC, dI) vwCl ([] ++ (pq_WD cI cZ cM cT hh ms1_15 gv1_16 tn1_17 tb1_18 κ1_14)) H := hP
      have hD : va_D A ([] ++ (pq_WD cI cZ cM cT hh ms1_15 gv1_16 tn1_17 tb1_18 κ1_14)) := hD
      refine W.widen (k := (k1 + 4)) (n := (n1 + 41)) (by first | exact Nat.le_of_ble_eq_true rfl | omega) (by first | exact Nat.le_of_ble_eq_true rfl | omega) ?_
      obtain rfl : r_13 = zi 1 := hw
      refine pz_if_eq (tgt := 829) hx hb (by omega) dL_law_822 (by decide) (fun c_20 => ?_) (fun c_20 => ?_)
      · exact absurd c_20 (by omega)
      · refine lv_iconst (v := zi 1) hx hb dL_law_825 (by decide) ?_
        refine lv_goto (tgt := 830) hx hb dL_law_826 (by decide) ?_
        refine va_forget (fun q hq => hA2 _ (hS.2.2 q hq)) ?_
        refine W.widen (k := room_1.cells) (n := room_1.slots) (by first | exact Nat.le_of_ble_eq_true rfl | omega) (by first | exact Nat.le_of_ble_eq_true rfl | omega) ?_
        exact lw_ret0 hx hb hr hlocks dL_law_830

set_option maxHeartbeats 4000000 in
set_option maxRecDepth 100000 in
theorem law_732 {p : Program} {l : Launch} {e : Env} {s : State} {m : MethodId} {below : List Frame} {meth : Method} {c : Code} {dC : Nat → ClassId} {dI : Nat → Nat → Nat} {cI cZ cM cT : ClassId} (hnt : l.stackTraces = false) {a0 b L hh : Nat} {xs : Nat → Int32} (hL : L ≤ 260) (C0 : lw_At p s m meth c b L xs) (hts : ∀ w ∈ zs_law, w.before #[Value.ref b] s = true) {A : Nat → Prop} (hA : ∀ q : Nat, s.heap.size ≤ q → A q) (hA2 : ∀ q : Nat, A q → s.heap.size ≤ q) (hZ : zB a0 A s s.heap) (hK : va_K (dC, dI) vwCl (zT4 cI cZ cM cT) s) {ms : List pq_M} {gv tn tb : Int} (hms : pq_mo ms) (hlen : 1 ≤ ms.length) {j : Int} (hj : 0 ≤ j ∧ j < 50) {k0 n0 : Nat} (hk0 : k0 ≤ 650 ∧ n0 ≤ 15500) (K752 : ∀ (ms : List pq_M) (gv tn tb : Int) (κ : pq_S) (k1 n1 : Nat) (H : Heap) (locs : List Loc) (ls : Array Slot), k1 ≤ k0 + 6 → n1 ≤ n0 + 40 → pq_mo ms → 1 ≤ ms.length → pq_Sok κ → va_P (dC, dI) vwCl ([] ++ (pq_WD cI cZ cM cT hh ms gv tn tb κ)) H → va_D A ([] ++ (pq_WD cI cZ cM cT hh ms gv tn tb κ)) → va_S A s.heap H locs → lv_has ls 14 [(0, .ref b), (1, .ref hh), (2, .int (zi gv)), (3, .int (zi tn)), (4, .int (zi j))] → W p l e room_1 s m #[Value.ref b] below meth c H locs k1 n1 (lw_Z below #[Value.ref b] s) (F0 m 752 ls [])) : ∀ (x9 : Int32) (w : Int) (am aw av ax : Nat) (T : pq_T) (kk ka kb : Int) (κ : pq_S) (H : Heap) (locs : List Loc) (ls : Array Slot), (0 ≤ w ∧ w < (ms.length : Int)) → ms[w.toNat]? = some (am, aw, av, ax, T, kk, ka, kb) → pq_Sok κ → va_P (dC, dI) vwCl ([] ++ (pq_WD cI cZ cM cT hh ms gv tn tb κ)) H → va_D A ([] ++ (pq_WD cI cZ cM cT hh ms gv tn tb κ)) → va_S A s.heap H locs → lv_has ls 14 [(0, .ref b), (1, .ref hh), (2, .int (zi gv)), (3, .int (zi tn)), (4, .int (zi j)), (5, .int x9), (6, .int (zi (ms.length : Int))), (7, .int (zi w)), (8, .int (zi kk)), (9, .int (zi tb))] → W p l e room_1 s m #[Value.ref b] below meth c H locs k0 n0 (lw_Z below #[Value.ref b] s) (F0 m 732 ls []) := by
  intro x9 w am aw av ax T kk ka kb κ H locs ls hw9 hμ hκ hP hD hS hl
  obtain ⟨hx, hb, hr, hml, hown, -, hX0, hbl, hlocks, hgv⟩ := id C0
  have hown : s.vm.findClass RL = some m.cls := hown
  have hX : zX A b L xs s s.heap := ⟨hX0, fun h => absurd (hA2 b h) (Nat.not_le.mpr hbl), hbl⟩
  have hR1 : 600000 ≤ room_1.cells := Nat.le_of_ble_eq_true rfl
  have hR2 : 7300000 ≤ room_1.slots := Nat.le_of_ble_eq_true rfl
  have hms12 := hms.1
  refine lv_aload_n hx hb dL_law_732 rfl (lv_at hl 1 rfl) ?_
  refine lv_iload hx hb dL_law_733 (lv_at hl 7 rfl) ?_
  refine lv_iload hx hb dL_law_735 (lv_at hl 5 rfl) ?_
  refine lv_iconst (v := zi 3) hx hb dL_law_737 (by decide) ?_
  refine lv_ishr hx hb dL_law_738 ?_
  refine lv_bipush (v := zi 120) hx hb dL_law_739 (by decide) ?_
  have hPc := hP.sub (ws' := []) [] rfl
  have hDc := hD.sub (ws' := []) [] (by decide) rfl
  have hFc := va_free (wc := []) hD hS hA [] rfl
  refine va_calli (va_runS (As := [.int (x9 >>> ((zi 3) &&& 31)), .int (zi 120)]) (rest := [.int (zi w), .ref hh]) ⟨hx, hb, hml, hown, hts⟩ (c_L_below l dC dI cI cZ cM cT H.size (x9 >>> ((zi 3) &&& 31)) 120 (by first | assumption | omega | rfl)) (va_cwS 2 hts (goodIn_of _ (by decide +kernel)) rfl rfl rfl (by decide +kernel) ⟨(by first | exact Nat.le_of_ble_eq_true rfl | omega), (by first | exact Nat.le_of_ble_eq_true rfl | omega)⟩) ⟨fun a U g mk q => by obtain ⟨q0, q1, qP, qK, qD⟩ := q; exact ⟨q0, q1, qP, va_K.moved (u := U) (U := U.calling g mk a) (Vm.Alike.refl U.vm) qK, qD⟩, fun U hU hW => ⟨rfl, by rw [hU], by rw [hU]; exact hPc, va_K.moved hW.alike hK, hDc.weaken (fun _ _ _ _ => trivial)⟩⟩ rfl rfl hl.1 rfl (lv_room (by first | exact Nat.le_of_ble_eq_true rfl | omega)) dL_law_741 ⟨(by first | exact Nat.le_of_ble_eq_true rfl | omega), (by first | exact Nat.le_of_ble_eq_true rfl | omega)⟩) hS (fun q _ h => hFc q h) hFc (fun r_1 u t H1 locs ht hvm hw hB hz1 hk1 hS => ?_)
  obtain ⟨hP1, hK1, hD1⟩ := hB
  rw [ht] at hP1
  obtain ⟨hP, hD⟩ := va_joinQ (wr := []) (w1 := []) (pl := (pq_WD cI cZ cM cT hh ms gv tn tb κ)) hP hD [] [] rfl rfl (by decide) (by decide) hk1 hFc hP1 hD1
  generalize H1 = H at hP hS ⊢
  have hP : va_P (dC, dI) vwCl ([] ++ (pq_WD cI cZ cM cT hh ms gv tn tb κ)) H := hP
  have hD : va_D A ([] ++ (pq_WD cI cZ cM cT hh ms gv tn tb κ)) := hD
  refine W.widen (k := k0) (n := n0) (by first | exact Nat.le_of_ble_eq_true rfl | omega) (by first | exact Nat.le_of_ble_eq_true rfl | omega) ?_
  obtain ⟨q_2, rfl, hq_3⟩ := hw
  have hPc := hP.part (cx := []) [] rfl
  have hDc := hD.part (cx := []) [] (by decide) rfl
  have hFc := va_freeP (cx := []) hD hS hA [] rfl
  refine va_calli (va_runS (As := [.ref hh, .int (zi w), .int (zi q_2)]) (rest := []) ⟨hx, hb, hml, hown, hts⟩ (c_L_isStep l dC dI cI cZ cM cT H.size hh ms gv tn tb κ w am aw av ax T kk ka kb q_2 (by first | assumption | omega | rfl) hκ (by first | assumption | omega | rfl) hμ (by first | assumption | omega | rfl)) (va_cwS 3 hts (goodIn_of _ (by decide +kernel)) rfl rfl rfl (by decide +kernel) ⟨(by first | exact Nat.le_of_ble_eq_true rfl | omega), (by first | exact Nat.le_of_ble_eq_true rfl | omega)⟩) ⟨fun a U g mk q => by obtain ⟨q0, q1, qP, qK, qD⟩ := q; exact ⟨q0, q1, qP, va_K.moved (u := U) (U := U.calling g mk a) (Vm.Alike.refl U.vm) qK, qD⟩, fun U hU hW => ⟨rfl, by rw [hU], by rw [hU]; exact hPc, va_K.moved hW.alike hK, hDc.weaken (fun _ _ _ _ => trivial)⟩⟩ rfl rfl hl.1 rfl (lv_room (by first | exact Nat.le_of_ble_eq_true rfl | omega)) dL_law_744 ⟨(by first | exact Nat.le_of_ble_eq_true rfl | omega), (by first | exact Nat.le_of_ble_eq_true rfl | omega)⟩) hS (fun q _ h => hFc q h) hFc (fun r_4 u t H1 locs ht hvm hw hB hz1 hk1 hS => ?_)
  obtain ⟨κ1_5, hz_6, hP1, hK1, hD1⟩ := hB
  rw [ht] at hP1
  obtain ⟨hP, hD⟩ := va_joinP (wr := []) (rx := []) (pl1 := (pq_WD cI cZ cM cT hh ms gv tn tb κ1_5)) hP hD [] [] rfl rfl (by decide) (by decide) hk1 hFc hP1 hD1
  generalize H1 = H at hP hS ⊢
  have hP : va_P (dC, dI) vwCl ([] ++ (pq_WD cI cZ cM cT hh ms gv tn tb κ1_5)) H := hP
  have hD : va_D A ([] ++ (pq_WD cI cZ cM cT hh ms gv tn tb κ1_5)) := hD
  refine W.widen (k := k0) (n := n0) (by first | exact Nat.le_of_ble_eq_true rfl | omega) (by first | exact Nat.le_of_ble_eq_true rfl | omega) ?_
  obtain rfl : r_4 = zi 1 := hw
  refine pz_if_ne (tgt := 752) hx hb (by omega) dL_law_747 (by decide) (fun c_7 => ?_) (fun c_7 => ?_)
  · exact K752 _ _ _ _ _ _ _ _ _ _ (by omega) (by omega) hms hlen hz_6 hP hD hS (lv_sub hl [0, 1, 2, 3, 4] rfl)
  · exact absurd c_7 (by omega)

set_option maxHeartbeats 4000000 in
set_option maxRecDepth 100000 in
theorem law_382 {p : Program} {l : Launch} {e : Env} {s : State} {m : MethodId} {below : List Frame} {meth : Method} {c : Code} {dC : Nat → ClassId} {dI : Nat → Nat → Nat} {cI cZ cM cT : ClassId} (hnt : l.stackTraces = false) {a0 b L hh : Nat} {xs : Nat → Int32} (hL : L ≤ 260) (C0 : lw_At p s m meth c b L xs) (hts : ∀ w ∈ zs_law, w.before #[Value.ref b] s = true) {A : Nat → Prop} (hA : ∀ q : Nat, s.heap.size ≤ q → A q) (hA2 : ∀ q : Nat, A q → s.heap.size ≤ q) (hZ : zB a0 A s s.heap) (hK : va_K (dC, dI) vwCl (zT4 cI cZ cM cT) s) {ms : List pq_M} {gv tn tb : Int} (hms : pq_mo ms) (hlen : 1 ≤ ms.length) {j : Int} (hj : 0 ≤ j ∧ j < 50) {k0 n0 : Nat} (hk0 : k0 ≤ 650 ∧ n0 ≤ 15500) (K752 : ∀ (ms : List pq_M) (gv tn tb : Int) (κ : pq_S) (k1 n1 : Nat) (H : Heap) (locs : List Loc) (ls : Array Slot), k1 ≤ k0 + 6 → n1 ≤ n0 + 40 → pq_mo ms → 1 ≤ ms.length → pq_Sok κ → va_P (dC, dI) vwCl ([] ++ (pq_WD cI cZ cM cT hh ms gv tn tb κ)) H → va_D A ([] ++ (pq_WD cI cZ cM cT hh ms gv tn tb κ)) → va_S A s.heap H locs → lv_has ls 14 [(0, .ref b), (1, .ref hh), (2, .int (zi gv)), (3, .int (zi tn)), (4, .int (zi j))] → W p l e room_1 s m #[Value.ref b] below meth c H locs k1 n1 (lw_Z below #[Value.ref b] s) (F0 m 752 ls [])) : ∀ (x9 : Int32) (w : Int) (am aw av ax : Nat) (T : pq_T) (kk ka kb : Int) (κ : pq_S) (H : Heap) (locs : List Loc) (ls : Array Slot), (0 ≤ w ∧ w < (ms.length : Int)) → ms[w.toNat]? = some (am, aw, av, ax, T, kk, ka, kb) → pq_Sok κ → va_P (dC, dI) vwCl ([] ++ (pq_WD cI cZ cM cT hh ms gv tn tb κ)) H → va_D A ([] ++ (pq_WD cI cZ cM cT hh ms gv tn tb κ)) → va_S A s.heap H locs → lv_has ls 14 [(0, .ref b), (1, .ref hh), (2, .int (zi gv)), (3, .int (zi tn)), (4, .int (zi j)), (5, .int x9), (6, .int (zi (ms.length : Int))), (7, .int (zi w)), (8, .int (zi kk)), (9, .int (zi tb))] → W p l e room_1 s m #[Value.ref b] below meth c H locs k0 n0 (lw_Z below #[Value.ref b] s) (F0 m 382 ls []) := by
  intro x9 w am aw av ax T kk ka kb κ H locs ls hw9 hμ hκ hP hD hS hl
  obtain ⟨hx, hb, hr, hml, hown, -, hX0, hbl, hlocks, hgv⟩ := id C0
  have hown : s.vm.findClass RL = some m.cls := hown
  have hX : zX A b L xs s s.heap := ⟨hX0, fun h => absurd (hA2 b h) (Nat.not_le.mpr hbl), hbl⟩
  have hR1 : 600000 ≤ room_1.cells := Nat.le_of_ble_eq_true rfl
  have hR2 : 7300000 ≤ room_1.slots := Nat.le_of_ble_eq_true rfl
  have hms12 := hms.1
  have hmk := pq_mo_at hms hμ
  have hkr := pq_mok_k hmk
  have hok : pq_ok T := hmk.1
  refine lv_iload hx hb dL_law_382 (lv_at hl 8 rfl) ?_
  refine pz_if_ge (tgt := 752) hx hb (by omega) dL_law_384 (by decide) (fun c_1 => ?_) (fun c_1 => ?_)
  · exact K752 _ _ _ _ _ _ _ _ _ _ (by omega) (by omega) hms hlen hκ hP hD hS (lv_sub hl [0, 1, 2, 3, 4] rfl)
  · have hkm : kk = -1 := by omega
    have hμ1 : ms[w.toNat]? = some (am, aw, av, ax, T, -1, ka, kb) := by rw [hμ, hkm]
    refine lv_aload_n hx hb dL_law_387 rfl (lv_at hl 1 rfl) ?_
    refine lv_iload hx hb dL_law_388 (lv_at hl 7 rfl) ?_
    have hPc := hP.part (cx := []) [] rfl
    have hDc := hD.part (cx := []) [] (by decide) rfl
    have hFc := va_freeP (cx := []) hD hS hA [] rfl
    refine va_calli (va_runV (As := [.int (zi w)]) (rest := []) ⟨hx, hb, hml, hown, hts⟩ (c_X7_decide l dC dI cI cZ cM cT H.size hh ms gv tn tb κ w am aw av ax T ka kb (by first | assumption | omega | rfl) hκ (by first | assumption | omega | rfl) hμ1) (cwV 1 hts (goodIn_of _ (by decide +kernel)) rfl rfl rfl (by decide +kernel) ⟨(by first | exact Nat.le_of_ble_eq_true rfl | omega), (by first | exact Nat.le_of_ble_eq_true rfl | omega)⟩) ⟨fun a U g mk q => by obtain ⟨q0, q1, qP, qK, qD⟩ := q; exact ⟨q0, q1, qP, va_K.moved (u := U) (U := U.calling g mk a) (Vm.Alike.refl U.vm) qK, qD⟩, va_recv hK hPc (ci := 6) (q0 := 0) rfl rfl, fun U hU hW => ⟨rfl, by rw [hU], by rw [hU]; exact hPc, va_K.moved hW.alike hK, hDc.weaken (fun _ _ _ _ => trivial)⟩⟩ rfl rfl hl.1 rfl (lv_room (by first | exact Nat.le_of_ble_eq_true rfl | omega)) dL_law_390 ⟨(by first | exact Nat.le_of_ble_eq_true rfl | omega), (by first | exact Nat.le_of_ble_eq_true rfl | omega)⟩) hS (fun q _ h => hFc q h) hFc (fun r_2 u t H1 locs ht hvm hw hB hz1 hk1 hS => ?_)
    obtain ⟨κ1_3, ms1_4, hz_5, hm_6, hP1, hK1, hD1⟩ := hB
    rw [ht] at hP1
    obtain ⟨hP, hD⟩ := va_joinP (wr := []) (rx := []) (pl1 := (pq_WD cI cZ cM cT hh ms1_4 gv tn tb κ1_3)) hP hD [] [] rfl rfl (by decide) (by decide) hk1 hFc hP1 hD1
    generalize H1 = H at hP hS ⊢
    have hP : va_P (dC, dI) vwCl ([] ++ (pq_WD cI cZ cM cT hh ms1_4 gv tn tb κ1_3)) H := hP
    have hD : va_D A ([] ++ (pq_WD cI cZ cM cT hh ms1_4 gv tn tb κ1_3)) := hD
    refine W.widen (k := k0) (n := n0) (by first | exact Nat.le_of_ble_eq_true rfl | omega) (by first | exact Nat.le_of_ble_eq_true rfl | omega) ?_
    obtain rfl : r_2 = zi ((pq_dc T).1) := hw
    have hm1 := hm_6
    have hμ2 : ms1_4[w.toNat]? = some (am, aw, av, ax, T, (pq_dc T).1, (pq_dc T).2.1, (pq_dc T).2.2) := by rw [hm1, List.getElem?_set_self (by omega)]
    have hdm : pq_mok (am, aw, av, ax, T, pq_dc T) := ⟨hok, (pq_dc_ok hok).elim (fun h => Or.inl (by rw [h]; exact ⟨rfl, rfl, rfl⟩)) Or.inr⟩
    have hms1 : pq_mo ms1_4 := by rw [hm1]; exact pq_mo_set hms hdm
    have hlen1 : 1 ≤ ms1_4.length := by rw [hm1, List.length_set]; exact hlen
    have hdr : -1 ≤ (pq_dc T).1 ∧ (pq_dc T).1 ≤ 3 := (pq_mok_k (k := (pq_dc T).1) (a := (pq_dc T).2.1) (b := (pq_dc T).2.2) hdm).1
    refine lv_aload_n hx hb dL_law_393 rfl (lv_at hl 1 rfl) ?_
    refine lv_iload hx hb dL_law_394 (lv_at hl 7 rfl) ?_
    refine lv_iconst (v := zi 2) hx hb dL_law_396 (by decide) ?_
    have hPc := hP.part (cx := []) [] rfl
    have hDc := hD.part (cx := []) [] (by decide) rfl
    have hFc := va_freeP (cx := []) hD hS hA [] rfl
    refine va_calli (va_runV (As := [.int (zi w), .int (zi 2)]) (rest := [.int (zi ((pq_dc T).1))]) ⟨hx, hb, hml, hown, hts⟩ (c_X7_ofMachine l dC dI cI cZ cM cT H.size hh ms1_4 gv tn tb κ1_3 w am aw av ax T ((pq_dc T).1) ((pq_dc T).2.1) ((pq_dc T).2.2) 2 hms1 hz_5 (by first | assumption | omega | rfl) hμ2 (by first | assumption | omega | rfl)) (cwV 2 hts (goodIn_of _ (by decide +kernel)) rfl rfl rfl (by decide +kernel) ⟨(by first | exact Nat.le_of_ble_eq_true rfl | omega), (by first | exact Nat.le_of_ble_eq_true rfl | omega)⟩) ⟨fun a U g mk q => by obtain ⟨q0, q1, qP, qK, qD⟩ := q; exact ⟨q0, q1, qP, va_K.moved (u := U) (U := U.calling g mk a) (Vm.Alike.refl U.vm) qK, qD⟩, va_recv hK hPc (ci := 6) (q0 := 0) rfl rfl, fun U hU hW => ⟨rfl, by rw [hU], by rw [hU]; exact hPc, va_K.moved hW.alike hK, hDc.weaken (fun _ _ _ _ => trivial)⟩⟩ rfl rfl hl.1 rfl (lv_room (by first | exact Nat.le_of_ble_eq_true rfl | omega)) dL_law_397 ⟨(by first | exact Nat.le_of_ble_eq_true rfl | omega), (by first | exact Nat.le_of_ble_eq_true rfl | omega)⟩) hS (fun q _ h => hFc q h) hFc (fun r_7 u t H1 locs ht hvm hw hB hz1 hk1 hS => ?_)
    obtain ⟨κ1_8, hz_9, hP1, hK1, hD1⟩ := hB
    rw [ht] at hP1
    obtain ⟨hP, hD⟩ := va_joinP (wr := []) (rx := []) (pl1 := (pq_WD cI cZ cM cT hh ms1_4 gv tn tb κ1_8)) hP hD [] [] rfl rfl (by decide) (by decide) hk1 hFc hP1 hD1
    generalize H1 = H at hP hS ⊢
    have hP : va_P (dC, dI) vwCl ([] ++ (pq_WD cI cZ cM cT hh ms1_4 gv tn tb κ1_8)) H := hP
    have hD : va_D A ([] ++ (pq_WD cI cZ cM cT hh ms1_4 gv tn tb κ1_8)) := hD
    refine W.widen (k := k0) (n := n0) (by first | exact Nat.le_of_ble_eq_true rfl | omega) (by first | exact Nat.le_of_ble_eq_true rfl | omega) ?_
    obtain rfl : r_7 = zi (pq_om T ((pq_dc T).1) ((pq_dc T).2.1) ((pq_dc T).2.2) (2 : Int)) := hw
    refine pz_top (y := zi ((pq_dc T).1)) (congrArg zi (rfl)) ?_
    refine lv_icmp_eq (tgt := 752) hx hb dL_law_400 (by decide) (fun _ => ?_) (fun h => absurd (congrArg zi (show (pq_dc T).1 = (pq_dc T).1 from rfl)) h)
    exact K752 _ _ _ _ _ _ _ _ _ _ (by omega) (by omega) hms1 hlen1 hz_9 hP hD hS (lv_sub hl [0, 1, 2, 3, 4] rfl)

set_option maxHeartbeats 4000000 in
set_option maxRecDepth 100000 in
theorem law_405 {p : Program} {l : Launch} {e : Env} {s : State} {m : MethodId} {below : List Frame} {meth : Method} {c : Code} {dC : Nat → ClassId} {dI : Nat → Nat → Nat} {cI cZ cM cT : ClassId} (hnt : l.stackTraces = false) {a0 b L hh : Nat} {xs : Nat → Int32} (hL : L ≤ 260) (C0 : lw_At p s m meth c b L xs) (hts : ∀ w ∈ zs_law, w.before #[Value.ref b] s = true) {A : Nat → Prop} (hA : ∀ q : Nat, s.heap.size ≤ q → A q) (hA2 : ∀ q : Nat, A q → s.heap.size ≤ q) (hZ : zB a0 A s s.heap) (hK : va_K (dC, dI) vwCl (zT4 cI cZ cM cT) s) {ms : List pq_M} {gv tn tb : Int} (hms : pq_mo ms) (hlen : 1 ≤ ms.length) {j : Int} (hj : 0 ≤ j ∧ j < 50) {k0 n0 : Nat} (hk0 : k0 ≤ 650 ∧ n0 ≤ 15500) (K752 : ∀ (ms : List pq_M) (gv tn tb : Int) (κ : pq_S) (k1 n1 : Nat) (H : Heap) (locs : List Loc) (ls : Array Slot), k1 ≤ k0 + 6 → n1 ≤ n0 + 40 → pq_mo ms → 1 ≤ ms.length → pq_Sok κ → va_P (dC, dI) vwCl ([] ++ (pq_WD cI cZ cM cT hh ms gv tn tb κ)) H → va_D A ([] ++ (pq_WD cI cZ cM cT hh ms gv tn tb κ)) → va_S A s.heap H locs → lv_has ls 14 [(0, .ref b), (1, .ref hh), (2, .int (zi gv)), (3, .int (zi tn)), (4, .int (zi j))] → W p l e room_1 s m #[Value.ref b] below meth c H locs k1 n1 (lw_Z below #[Value.ref b] s) (F0 m 752 ls [])) : ∀ (x9 : Int32) (w : Int) (am aw av ax : Nat) (T : pq_T) (kk ka kb : Int) (κ : pq_S) (H : Heap) (locs : List Loc) (ls : Array Slot), (0 ≤ w ∧ w < (ms.length : Int)) → ms[w.toNat]? = some (am, aw, av, ax, T, kk, ka, kb) → pq_Sok κ → va_P (dC, dI) vwCl ([] ++ (pq_WD cI cZ cM cT hh ms gv tn tb κ)) H → va_D A ([] ++ (pq_WD cI cZ cM cT hh ms gv tn tb κ)) → va_S A s.heap H locs → lv_has ls 14 [(0, .ref b), (1, .ref hh), (2, .int (zi gv)), (3, .int (zi tn)), (4, .int (zi j)), (5, .int x9), (6, .int (zi (ms.length : Int))), (7, .int (zi w)), (8, .int (zi kk)), (9, .int (zi tb))] → W p l e room_1 s m #[Value.ref b] below meth c H locs k0 n0 (lw_Z below #[Value.ref b] s) (F0 m 405 ls []) := by
  intro x9 w am aw av ax T kk ka kb κ H locs ls hw9 hμ hκ hP hD hS hl
  obtain ⟨hx, hb, hr, hml, hown, -, hX0, hbl, hlocks, hgv⟩ := id C0
  have hown : s.vm.findClass RL = some m.cls := hown
  have hX : zX A b L xs s s.heap := ⟨hX0, fun h => absurd (hA2 b h) (Nat.not_le.mpr hbl), hbl⟩
  have hR1 : 600000 ≤ room_1.cells := Nat.le_of_ble_eq_true rfl
  have hR2 : 7300000 ≤ room_1.slots := Nat.le_of_ble_eq_true rfl
  have hms12 := hms.1
  refine lv_iload hx hb dL_law_405 (lv_at hl 5 rfl) ?_
  refine lv_iconst (v := zi 3) hx hb dL_law_407 (by decide) ?_
  refine lv_ishr hx hb dL_law_408 ?_
  refine lv_iconst (v := zi 4) hx hb dL_law_409 (by decide) ?_
  have hPc := hP.sub (ws' := []) [] rfl
  have hDc := hD.sub (ws' := []) [] (by decide) rfl
  have hFc := va_free (wc := []) hD hS hA [] rfl
  refine va_calli (va_runS (As := [.int (x9 >>> ((zi 3) &&& 31)), .int (zi 4)]) (rest := []) ⟨hx, hb, hml, hown, hts⟩ (c_L_below l dC dI cI cZ cM cT H.size (x9 >>> ((zi 3) &&& 31)) 4 (by first | assumption | omega | rfl)) (va_cwS 2 hts (goodIn_of _ (by decide +kernel)) rfl rfl rfl (by decide +kernel) ⟨(by first | exact Nat.le_of_ble_eq_true rfl | omega), (by first | exact Nat.le_of_ble_eq_true rfl | omega)⟩) ⟨fun a U g mk q => by obtain ⟨q0, q1, qP, qK, qD⟩ := q; exact ⟨q0, q1, qP, va_K.moved (u := U) (U := U.calling g mk a) (Vm.Alike.refl U.vm) qK, qD⟩, fun U hU hW => ⟨rfl, by rw [hU], by rw [hU]; exact hPc, va_K.moved hW.alike hK, hDc.weaken (fun _ _ _ _ => trivial)⟩⟩ rfl rfl hl.1 rfl (lv_room (by first | exact Nat.le_of_ble_eq_true rfl | omega)) dL_law_410 ⟨(by first | exact Nat.le_of_ble_eq_true rfl | omega), (by first | exact Nat.le_of_ble_eq_true rfl | omega)⟩) hS (fun q _ h => hFc q h) hFc (fun r_1 u t H1 locs ht hvm hw hB hz1 hk1 hS => ?_)
  obtain ⟨hP1, hK1, hD1⟩ := hB
  rw [ht] at hP1
  obtain ⟨hP, hD⟩ := va_joinQ (wr := []) (w1 := []) (pl := (pq_WD cI cZ cM cT hh ms gv tn tb κ)) hP hD [] [] rfl rfl (by decide) (by decide) hk1 hFc hP1 hD1
  generalize H1 = H at hP hS ⊢
  have hP : va_P (dC, dI) vwCl ([] ++ (pq_WD cI cZ cM cT hh ms gv tn tb κ)) H := hP
  have hD : va_D A ([] ++ (pq_WD cI cZ cM cT hh ms gv tn tb κ)) := hD
  refine W.widen (k := k0) (n := n0) (by first | exact Nat.le_of_ble_eq_true rfl | omega) (by first | exact Nat.le_of_ble_eq_true rfl | omega) ?_
  obtain ⟨q_2, rfl, hq_3⟩ := hw
  refine lv_istore (lv' := [(10, .int (zi q_2)), (0, .ref b), (1, .ref hh), (2, .int (zi gv)), (3, .int (zi tn)), (4, .int (zi j)), (5, .int x9), (6, .int (zi (ms.length : Int))), (7, .int (zi w)), (8, .int (zi kk)), (9, .int (zi tb))]) hx hb dL_law_413 hl (by decide) rfl (fun ls hl => ?_)
  refine lv_aload_n hx hb dL_law_415 rfl (lv_at hl 2 rfl) ?_
  refine lv_iconst (v := zi 2) hx hb dL_law_416 (by decide) ?_
  refine lv_iload hx hb dL_law_417 (lv_at hl 0 rfl) ?_
  refine pz_iadd hx hb dL_law_419 ?_
  have hPc := hP.part (cx := []) [] rfl
  have hDc := hD.part (cx := []) [] (by decide) rfl
  have hFc := va_freeP (cx := []) hD hS hA [] rfl
  refine va_calli (va_runV (As := [.int (zi (2 + q_2))]) (rest := []) ⟨hx, hb, hml, hown, hts⟩ (c_X7_many l dC dI cI cZ cM cT H.size hh ms gv tn tb κ (2 + q_2) (by first | assumption | omega | rfl) hκ (by first | assumption | omega | rfl)) (cwV 1 hts (goodIn_of _ (by decide +kernel)) rfl rfl rfl (by decide +kernel) ⟨(by first | exact Nat.le_of_ble_eq_true rfl | omega), (by first | exact Nat.le_of_ble_eq_true rfl | omega)⟩) ⟨fun a U g mk q => by obtain ⟨q0, q1, qP, qK, qD⟩ := q; exact ⟨q0, q1, qP, va_K.moved (u := U) (U := U.calling g mk a) (Vm.Alike.refl U.vm) qK, qD⟩, va_recv hK hPc (ci := 6) (q0 := 0) rfl rfl, fun U hU hW => ⟨rfl, by rw [hU], by rw [hU]; exact hPc, va_K.moved hW.alike hK, hDc.weaken (fun _ _ _ _ => trivial)⟩⟩ rfl rfl hl.1 rfl (lv_room (by first | exact Nat.le_of_ble_eq_true rfl | omega)) dL_law_420 ⟨(by first | exact Nat.le_of_ble_eq_true rfl | omega), (by first | exact Nat.le_of_ble_eq_true rfl | omega)⟩) hS (fun q _ h => hFc q h) hFc (fun r_4 u t H1 locs ht hvm hw hB hz1 hk1 hS => ?_)
  obtain ⟨hP1, hK1, hD1⟩ := hB
  rw [ht] at hP1
  obtain ⟨hP, hD⟩ := va_joinP (wr := []) (rx := []) (pl1 := (pq_WD cI cZ cM cT hh ms gv tn tb κ)) hP hD [] [] rfl rfl (by decide) (by decide) hk1 hFc hP1 hD1
  generalize H1 = H at hP hS ⊢
  have hP : va_P (dC, dI) vwCl ([] ++ (pq_WD cI cZ cM cT hh ms gv tn tb κ)) H := hP
  have hD : va_D A ([] ++ (pq_WD cI cZ cM cT hh ms gv tn tb κ)) := hD
  refine W.widen (k := k0) (n := n0) (by first | exact Nat.le_of_ble_eq_true rfl | omega) (by first | exact Nat.le_of_ble_eq_true rfl | omega) ?_
  obtain rfl : r_4 = zi (pq_ma ms gv tn tb (2 + q_2)) := hw
  refine pz_top (y := zi (pq_ck q_2 ms)) (congrArg zi (by rw [show (2 + q_2 : Int) = 1 + (q_2 + 1) by omega, pq_ma_k (by omega), show q_2 + 1 - 1 = q_2 by omega])) ?_
  refine lv_istore (lv' := [(11, .int (zi (pq_ck q_2 ms))), (10, .int (zi q_2)), (0, .ref b), (1, .ref hh), (2, .int (zi gv)), (3, .int (zi tn)), (4, .int (zi j)), (5, .int x9), (6, .int (zi (ms.length : Int))), (7, .int (zi w)), (8, .int (zi kk)), (9, .int (zi tb))]) hx hb dL_law_423 hl (by decide) rfl (fun ls hl => ?_)
  refine lv_aload_n hx hb dL_law_425 rfl (lv_at hl 3 rfl) ?_
  refine lv_iload hx hb dL_law_426 (lv_at hl 1 rfl) ?_
  have hPc := hP.part (cx := []) [] rfl
  have hDc := hD.part (cx := []) [] (by decide) rfl
  have hFc := va_freeP (cx := []) hD hS hA [] rfl
  refine va_calli (va_runV (As := [.int (zi q_2)]) (rest := []) ⟨hx, hb, hml, hown, hts⟩ (c_X7_doubt l dC dI cI cZ cM cT H.size hh ms gv tn tb κ q_2 (by first | assumption | omega | rfl) hκ (by first | assumption | omega | rfl)) (cwV 1 hts (goodIn_of _ (by decide +kernel)) rfl rfl rfl (by decide +kernel) ⟨(by first | exact Nat.le_of_ble_eq_true rfl | omega), (by first | exact Nat.le_of_ble_eq_true rfl | omega)⟩) ⟨fun a U g mk q => by obtain ⟨q0, q1, qP, qK, qD⟩ := q; exact ⟨q0, q1, qP, va_K.moved (u := U) (U := U.calling g mk a) (Vm.Alike.refl U.vm) qK, qD⟩, va_recv hK hPc (ci := 6) (q0 := 0) rfl rfl, fun U hU hW => ⟨rfl, by rw [hU], by rw [hU]; exact hPc, va_K.moved hW.alike hK, hDc.weaken (fun _ _ _ _ => trivial)⟩⟩ rfl rfl hl.1 rfl (lv_room (by first | exact Nat.le_of_ble_eq_true rfl | omega)) dL_law_428 ⟨(by first | exact Nat.le_of_ble_eq_true rfl | omega), (by first | exact Nat.le_of_ble_eq_true rfl | omega)⟩) hS (fun q _ h => hFc q h) hFc (fun r_5 u t H1 locs ht hvm hw hB hz1 hk1 hS => ?_)
  obtain ⟨κ1_6, ms1_7, tb1_8, hz_9, hm_10, hP1, hK1, hD1⟩ := hB
  rw [ht] at hP1
  obtain ⟨hP, hD⟩ := va_joinP (wr := []) (rx := []) (pl1 := (pq_WD cI cZ cM cT hh ms1_7 gv tn tb1_8 κ1_6)) hP hD [] [] rfl rfl (by decide) (by decide) hk1 hFc hP1 hD1
  generalize H1 = H at hP hS ⊢
  have hP : va_P (dC, dI) vwCl ([] ++ (pq_WD cI cZ cM cT hh ms1_7 gv tn tb1_8 κ1_6)) H := hP
  have hD : va_D A ([] ++ (pq_WD cI cZ cM cT hh ms1_7 gv tn tb1_8 κ1_6)) := hD
  refine W.widen (k := k0) (n := n0) (by first | exact Nat.le_of_ble_eq_true rfl | omega) (by first | exact Nat.le_of_ble_eq_true rfl | omega) ?_
  obtain rfl : r_5 = zi (pq_ck q_2 ms) := hw
  have hm1 := hm_10
  have hms1 : pq_mo ms1_7 := by rw [hm1.1]; have h := pq_op_mo (y := q_2) hms ms.length; rwa [List.take_length, List.drop_length, List.append_nil] at h
  have hlen1 : 1 ≤ ms1_7.length := by rw [hm1.1, List.length_map]; exact hlen
  refine lv_iload hx hb dL_law_431 (lv_at hl 0 rfl) ?_
  refine lv_icmp_ne (tgt := 461) hx hb dL_law_433 (by decide) (fun h => absurd (congrArg zi (show pq_ck q_2 ms = pq_ck q_2 ms from rfl)) h) (fun _ => ?_)
  refine lv_aload_n hx hb dL_law_436 rfl (lv_at hl 3 rfl) ?_
  refine lv_iconst (v := zi 2) hx hb dL_law_437 (by decide) ?_
  refine lv_iload hx hb dL_law_438 (lv_at hl 1 rfl) ?_
  refine pz_iadd hx hb dL_law_440 ?_
  have hPc := hP.part (cx := []) [] rfl
  have hDc := hD.part (cx := []) [] (by decide) rfl
  have hFc := va_freeP (cx := []) hD hS hA [] rfl
  refine va_calli (va_runV (As := [.int (zi (2 + q_2))]) (rest := []) ⟨hx, hb, hml, hown, hts⟩ (c_X7_many l dC dI cI cZ cM cT H.size hh ms1_7 gv tn tb1_8 κ1_6 (2 + q_2) hms1 hz_9 (by first | assumption | omega | rfl)) (cwV 1 hts (goodIn_of _ (by decide +kernel)) rfl rfl rfl (by decide +kernel) ⟨(by first | exact Nat.le_of_ble_eq_true rfl | omega), (by first | exact Nat.le_of_ble_eq_true rfl | omega)⟩) ⟨fun a U g mk q => by obtain ⟨q0, q1, qP, qK, qD⟩ := q; exact ⟨q0, q1, qP, va_K.moved (u := U) (U := U.calling g mk a) (Vm.Alike.refl U.vm) qK, qD⟩, va_recv hK hPc (ci := 6) (q0 := 0) rfl rfl, fun U hU hW => ⟨rfl, by rw [hU], by rw [hU]; exact hPc, va_K.moved hW.alike hK, hDc.weaken (fun _ _ _ _ => trivial)⟩⟩ rfl rfl hl.1 rfl (lv_room (by first | exact Nat.le_of_ble_eq_true rfl | omega)) dL_law_441 ⟨(by first | exact Nat.le_of_ble_eq_true rfl | omega), (by first | exact Nat.le_of_ble_eq_true rfl | omega)⟩) hS (fun q _ h => hFc q h) hFc (fun r_11 u t H1 locs ht hvm hw hB hz1 hk1 hS => ?_)
  obtain ⟨hP1, hK1, hD1⟩ := hB
  rw [ht] at hP1
  obtain ⟨hP, hD⟩ := va_joinP (wr := []) (rx := []) (pl1 := (pq_WD cI cZ cM cT hh ms1_7 gv tn tb1_8 κ1_6)) hP hD [] [] rfl rfl (by decide) (by decide) hk1 hFc hP1 hD1
  generalize H1 = H at hP hS ⊢
  have hP : va_P (dC, dI) vwCl ([] ++ (pq_WD cI cZ cM cT hh ms1_7 gv tn tb1_8 κ1_6)) H := hP
  have hD : va_D A ([] ++ (pq_WD cI cZ cM cT hh ms1_7 gv tn tb1_8 κ1_6)) := hD
  refine W.widen (k := k0) (n := n0) (by first | exact Nat.le_of_ble_eq_true rfl | omega) (by first | exact Nat.le_of_ble_eq_true rfl | omega) ?_
  obtain rfl : r_11 = zi (pq_ma ms1_7 gv tn tb1_8 (2 + q_2)) := hw
  refine pz_top (y := zi 0) (congrArg zi (by rw [show (2 + q_2 : Int) = 1 + (q_2 + 1) by omega, pq_ma_k (by omega), show q_2 + 1 - 1 = q_2 by omega, hm1.1]; exact pq_ck_op0 (by omega) ms)) ?_
  refine pz_if_ne (tgt := 461) hx hb (by omega) dL_law_444 (by decide) (fun c_12 => ?_) (fun c_12 => ?_)
  · exact absurd c_12 (by omega)
  · refine lv_aload_n hx hb dL_law_447 rfl (lv_at hl 3 rfl) ?_
    refine lv_bipush (v := zi 9) hx hb dL_law_448 (by decide) ?_
    have hPc := hP.part (cx := []) [] rfl
    have hDc := hD.part (cx := []) [] (by decide) rfl
    have hFc := va_freeP (cx := []) hD hS hA [] rfl
    refine va_calli (va_runV (As := [.int (zi 9)]) (rest := []) ⟨hx, hb, hml, hown, hts⟩ (c_X7_many l dC dI cI cZ cM cT H.size hh ms1_7 gv tn tb1_8 κ1_6 9 hms1 hz_9 (by first | assumption | omega | rfl)) (cwV 1 hts (goodIn_of _ (by decide +kernel)) rfl rfl rfl (by decide +kernel) ⟨(by first | exact Nat.le_of_ble_eq_true rfl | omega), (by first | exact Nat.le_of_ble_eq_true rfl | omega)⟩) ⟨fun a U g mk q => by obtain ⟨q0, q1, qP, qK, qD⟩ := q; exact ⟨q0, q1, qP, va_K.moved (u := U) (U := U.calling g mk a) (Vm.Alike.refl U.vm) qK, qD⟩, va_recv hK hPc (ci := 6) (q0 := 0) rfl rfl, fun U hU hW => ⟨rfl, by rw [hU], by rw [hU]; exact hPc, va_K.moved hW.alike hK, hDc.weaken (fun _ _ _ _ => trivial)⟩⟩ rfl rfl hl.1 rfl (lv_room (by first | exact Nat.le_of_ble_eq_true rfl | omega)) dL_law_450 ⟨(by first | exact Nat.le_of_ble_eq_true rfl | omega), (by first | exact Nat.le_of_ble_eq_true rfl | omega)⟩) hS (fun q _ h => hFc q h) hFc (fun r_13 u t H1 locs ht hvm hw hB hz1 hk1 hS => ?_)
    obtain ⟨hP1, hK1, hD1⟩ := hB
    rw [ht] at hP1
    obtain ⟨hP, hD⟩ := va_joinP (wr := []) (rx := []) (pl1 := (pq_WD cI cZ cM cT hh ms1_7 gv tn tb1_8 κ1_6)) hP hD [] [] rfl rfl (by decide) (by decide) hk1 hFc hP1 hD1
    generalize H1 = H at hP hS ⊢
    have hP : va_P (dC, dI) vwCl ([] ++ (pq_WD cI cZ cM cT hh ms1_7 gv tn tb1_8 κ1_6)) H := hP
    have hD : va_D A ([] ++ (pq_WD cI cZ cM cT hh ms1_7 gv tn tb1_8 κ1_6)) := hD
    refine W.widen (k := k0) (n := n0) (by first | exact Nat.le_of_ble_eq_true rfl | omega) (by first | exact Nat.le_of_ble_eq_true rfl | omega) ?_
    obtain rfl : r_13 = zi (pq_ma ms1_7 gv tn tb1_8 (9 : Int)) := hw
    refine pz_top (y := zi (tb + pq_ck q_2 ms)) (congrArg zi (hm1.2)) ?_
    refine lv_iload hx hb dL_law_453 (lv_at hl 11 rfl) ?_
    refine lv_iload hx hb dL_law_455 (lv_at hl 0 rfl) ?_
    refine pz_iadd hx hb dL_law_457 ?_
    refine lv_icmp_eq (tgt := 752) hx hb dL_law_458 (by decide) (fun _ => ?_) (fun h => absurd (congrArg zi (show tb + pq_ck q_2 ms = tb + (pq_ck q_2 ms) from rfl)) h)
    exact K752 _ _ _ _ _ _ _ _ _ _ (by omega) (by omega) hms1 hlen1 hz_9 hP hD hS (lv_sub hl [2, 3, 4, 5, 6] rfl)
