/-! p26: what must always hold, and the proofs again -/
theorem pq_so {am aw av ax : Nat} {T : pq_T} {k a b : Int} (h : pq_mok (am, aw, av, ax, T, k, a, b)) : (pq_ways T = 0 ∨ ((9 ≤ pq_ways T ∧ pq_ways T ≤ 1 + 4 * pq_n T ∧ pq_ways T % 4 = 1) ∧ 0 < pq_ce T (2 * pq_n T).toNat ∧ pq_as T 7 < 0)) ∧ (0 ≤ k → (k = 0 ↔ 0 ≤ pq_as T 7) ∧ pq_ways T = 0) ∧ (k < 0 ↔ a < 0) ∧ (0 ≤ pq_as T 7 → pq_as T 6 ≤ pq_as T 7) ∧ (k = 0 → pq_as T 7 = a ∧ 1 ≤ a ∧ a ≤ 500) := by
  have hT : pq_ok T := h.1
  have hn := hT.1
  have hw := pq_wy_bd hT
  have hrg := pq_rg hT (k := 500) (by omega)
  have has7 : ∀ z : pq_n T ≤ pq_q (pq_r T 500), pq_as T 7 = pq_d (pq_r T 500) := fun z => (if_pos z).trans ((if_neg (by decide)).trans (if_pos rfl))
  have has7n : ∀ z : ¬ pq_n T ≤ pq_q (pq_r T 500), pq_as T 7 = -1 := fun z => if_neg z
  have has6 : ∀ z : pq_n T ≤ pq_q (pq_r T 500), pq_as T 6 = pq_ones (pq_r T 500) := fun z => (if_pos z).trans (if_pos rfl)
  have hwq : ∀ z : pq_n T ≤ pq_q (pq_r T 500), pq_ways T = 0 := fun z => if_neg (fun q => by have := (pb_1 q).1; omega)
  refine ⟨?_, fun hk => ?_, ?_, fun h7 => ?_, fun hk => ?_⟩
  · by_cases z : pb (pq_q (pq_r T 500) < pq_n T ∧ pq_E T (pq_m (pq_r T 500))) = 1
    · have e : pq_ways T = pq_wy T := if_pos z
      obtain ⟨z1, z2⟩ := pb_1 z
      obtain ⟨g1, g2, -, -⟩ := pq_m_of (pq_wf_r hT 500) z1
      refine Or.inr ⟨by rw [e]; exact hw, ?_, by rw [has7n (by omega)]; omega⟩
      exact pq_ce_pos (c := pq_c (pq_r T 500)) (by rw [g1]; exact z2) _ g2
    · exact Or.inl (if_neg z)
  · have hc : pq_cert T k a b := h.2.resolve_left (fun q => by have q1 : k = -1 := q.1; omega)
    by_cases k0 : k = 0
    · obtain ⟨c1, c2, c3⟩ := pq_cert_stop hc k0
      obtain ⟨-, c4, c5⟩ := c3 500 (by omega)
      refine ⟨⟨fun _ => by rw [has7 c5]; omega, fun _ => k0⟩, hwq c5⟩
    · have hon := pq_cert_on hT hc k0 500
      refine ⟨⟨fun q => absurd q k0, fun q => ?_⟩, ?_⟩
      · rw [has7n (by have := hon.1; omega)] at q
        omega
      · exact if_neg (fun q => hon.2 (pb_1 q).2)
  · rcases h.2 with ⟨q1, q2, q3⟩ | q
    · have q1 : k = -1 := q1
      have q2 : a = -1 := q2
      omega
    · have q : pq_cert T k a b := q
      have := pq_cert_k q
      omega
  · by_cases z : pq_n T ≤ pq_q (pq_r T 500)
    · rw [has6 z, has7 z]
      exact pq_ones_d hT 500
    · rw [has7n z] at h7
      omega
  · have hc : pq_cert T k a b := h.2.resolve_left (fun q => by have q1 : k = -1 := q.1; omega)
    obtain ⟨c1, c2, c3⟩ := pq_cert_stop hc hk
    obtain ⟨-, c4, c5⟩ := c3 500 (by omega)
    exact ⟨by rw [has7 c5]; exact c4, c1, c2⟩
theorem pq_ways_rg {T : pq_T} (hT : pq_ok T) : 0 ≤ pq_ways T ∧ pq_ways T ≤ 17 := by
  have hn := hT.1
  have hw := pq_wy_bd hT
  unfold pq_ways
  split <;> omega
theorem pq_ma_k {ms : List pq_M} {gv tn tb j : Int} (hj : 0 ≤ j ∧ j < 5) : pq_ma ms gv tn tb (1 + j) = pq_ck (j - 1) ms := by
  have h : j = 0 ∨ j = 1 ∨ j = 2 ∨ j = 3 ∨ j = 4 := by omega
  rcases h with rfl | rfl | rfl | rfl | rfl <;> rfl
/-- the row of kinds, with one machine more -/
theorem pq_kinds {ms : List pq_M} {j : Int} (hj : 0 ≤ j) {μ : pq_M} (h : ms[j.toNat]? = some μ) (hk : -1 ≤ μ.2.2.2.2.2.1 ∧ μ.2.2.2.2.2.1 ≤ 3) {g : Nat → Int} (hg : ∀ t : Nat, t < 5 → g t = pq_ck ((t : Int) - 1) (ms.take j.toNat)) : ∀ t : Nat, t < 5 → pz_u g (μ.2.2.2.2.2.1 + 1).toNat (g (μ.2.2.2.2.2.1 + 1).toNat + 1) t = pq_ck ((t : Int) - 1) (ms.take (j + 1).toNat) := by
  intro t ht
  unfold pz_u
  by_cases e : t = (μ.2.2.2.2.2.1 + 1).toNat
  · rw [if_pos e, ← e, hg t ht, pq_ck_t hj h (by omega)]
  · rw [if_neg e, hg t ht, pq_ck_f hj h (by omega)]
/-- the champion of last steps: none if nobody stops; else one that does, and no mean is greater -/
theorem pq_cp_sp {ms : List pq_M} (hm : pq_mo ms) : ∀ j : Nat, j ≤ ms.length → ((pq_cp ms 1 j).1 = -1 ∧ (pq_cp ms 1 j).2 = -1 ∧ pq_ck 0 (ms.take j) = 0 ∧ pq_sa (ms.take j) = 0) ∨ (∃ b : Nat, b < j ∧ (pq_cp ms 1 j).1 = (b : Int) ∧ (∃ μ : pq_M, ms[b]? = some μ ∧ μ.2.2.2.2.2.1 = 0 ∧ pq_as μ.2.2.2.2.1 7 = (pq_cp ms 1 j).2) ∧ 1 ≤ (pq_cp ms 1 j).2 ∧ 1 ≤ pq_ck 0 (ms.take j) ∧ pq_sa (ms.take j) ≤ (pq_cp ms 1 j).2 * pq_ck 0 (ms.take j))
  | 0, _ => Or.inl ⟨rfl, rfl, rfl, rfl⟩
  | j + 1, hj => by
    have ih := pq_cp_sp hm j (by omega)
    obtain ⟨μ, hμ⟩ : ∃ μ, ms[j]? = some μ := ⟨_, List.getElem?_eq_getElem (by omega)⟩
    have hμ' : ms[((j : Nat) : Int).toNat]? = some μ := by rw [Int.toNat_natCast]; exact hμ
    have e1 : (((j : Nat) : Int) + 1).toNat = j + 1 := by omega
    have e0 : ((j : Nat) : Int).toNat = j := by omega
    obtain ⟨am, aw, av, ax, T, k, a, b⟩ := μ
    have hs := pq_so (pq_mo_at hm hμ)
    by_cases hk : k = 0
    · obtain ⟨ha, ha1, ha2⟩ := hs.2.2.2.2 hk
      have hck := pq_ck_t (k := 0) (ms := ms) (j := (j : Int)) (by omega) hμ' hk
      have hsa := pq_sa_t (ms := ms) (j := (j : Int)) (by omega) hμ' hk
      rw [e1, e0] at hck hsa
      have hsa : pq_sa (ms.take (j + 1)) = pq_sa (ms.take j) + a := hsa
      by_cases hg : (pq_cp ms 1 j).2 < pq_as T 7
      · have hcp := pq_cp_t (ms := ms) (y := 1) (j := (j : Int)) (by omega) hμ' hk (by rw [e0]; exact hg)
        rw [e1] at hcp
        have hcp : pq_cp ms 1 (j + 1) = ((j : Int), pq_as T 7) := hcp
        rw [hcp, hck, hsa]
        refine Or.inr ⟨j, by omega, rfl, ⟨_, hμ, hk, rfl⟩, by show 1 ≤ pq_as T 7; omega, ?_, ?_⟩
        · have := pq_ck_bd 0 (ms.take j)
          omega
        · show pq_sa (ms.take j) + a ≤ pq_as T 7 * (pq_ck 0 (ms.take j) + 1)
          rw [Int.mul_add, Int.mul_one, ha]
          rcases ih with ⟨-, -, c1, c2⟩ | ⟨b9, -, -, -, c3, c4, c5⟩
          · rw [c1, c2]; omega
          · have := Int.mul_le_mul_of_nonneg_right (show (pq_cp ms 1 j).2 ≤ a by omega) (show 0 ≤ pq_ck 0 (ms.take j) by omega)
            omega
      · have hcp := pq_cp_f (ms := ms) (y := 1) (j := (j : Int)) (by omega) hμ' (fun q => hg (by have q2 := q.2; rw [e0] at q2; exact q2))
        rw [e1, e0] at hcp
        rw [hcp, hck, hsa]
        rcases ih with ⟨-, c0, c1, c2⟩ | ⟨b9, b1, b2, b3, c3, c4, c5⟩
        · omega
        · refine Or.inr ⟨b9, by omega, b2, b3, c3, by omega, ?_⟩
          rw [Int.mul_add, Int.mul_one]
          omega
    · have hck := pq_ck_f (k := 0) (ms := ms) (j := (j : Int)) (by omega) hμ' hk
      have hsa := pq_sa_f (ms := ms) (j := (j : Int)) (by omega) hμ' hk
      have hcp := pq_cp_f (ms := ms) (y := 1) (j := (j : Int)) (by omega) hμ' (fun q => hk q.1)
      rw [e1, e0] at hck hsa hcp
      rw [hcp, hck, hsa]
      rcases ih with c | ⟨b9, b1, b2⟩
      · exact Or.inl c
      · exact Or.inr ⟨b9, by omega, b2⟩
theorem pq_cmpv {x y : UInt64} (h : pq_ge (FP.dcmp x y) = true) : ¬ Op.cmpValue (FP.dcmp x y) .l < 0 := by
  cases e : FP.dcmp x y with
  | none => rw [e] at h; exact absurd h (by decide)
  | some o =>
    rw [e] at h
    cases o with
    | lt => exact absurd h (by decide)
    | eq => decide
    | gt => decide
theorem pq_cy_bd {ms : List pq_M} (hm : ∀ μ ∈ ms, pq_mok μ) : 0 ≤ pq_cy ms ∧ pq_cy ms ≤ 8 * ms.length := by
  induction ms with
  | nil => exact ⟨Int.le_refl 0, Int.le_refl 0⟩
  | cons μ r ih =>
    have h1 := ih (fun ν hν => hm ν (List.mem_cons_of_mem _ hν))
    have h2 := pq_ce_bd μ.2.2.2.2.1 (2 * pq_n μ.2.2.2.2.1).toNat
    have h3 := (hm μ List.mem_cons_self).1.1
    have e : pq_cy (μ :: r) = pq_ce μ.2.2.2.2.1 (2 * pq_n μ.2.2.2.2.1).toNat + pq_cy r := rfl
    rw [e, List.length_cons]
    omega
def zs_c_L_isSo : List Cond := .code yL_isSo cL_isSo 9 (some .boolean) :: (([.arrayClass .int, .code yX7_many cX7_many 2 (some .int), .code yX7_isWithin cX7_isWithin 3 (some .boolean), .methodLink RX7 49 yX7_isWithin, .static yX7_isWithin, .initialized RX7, .code yX7_require cX7_require 1 none, .methodLink RX7 53 yX7_require, .static yX7_require, .fieldLink RX7 148 "Haltingale" "machineCount" "I", .code yX7_countOfKind cX7_countOfKind 4 (some .int), .code yX7_find cX7_find 3 (some (.object "Haltingale$Machine")), .fieldLink RX7 11 "Haltingale" "machines" "[LHaltingale$Machine;", .methodLink RX7 67 yX7_find, .instanceMethod yX7_find, .selects RX7 yX7_find yX7_find, .fieldLink RX7 151 "Haltingale$Machine" "kind" "I", .methodLink RX7 252 yX7_countOfKind, .instanceMethod yX7_countOfKind, .selects RX7 yX7_countOfKind yX7_countOfKind, .fieldLink RX7 122 "Haltingale" "tagCount" "I", .fieldLink RX7 136 "Haltingale" "givenCount" "I", .fieldLink RX7 142 "Haltingale" "takenCount" "I", .fieldLink RX7 255 "Haltingale" "takenBackCount" "I", .code yX7_countEmptyCells cX7_countEmptyCells 3 (some .int), .code yX3_countEmpty cX3_countEmpty 3 (some .int), .code yX3_countCells cX3_countCells 1 (some .int), .fieldLink RX3 9 "Haltingale$Machine" "states" "I", .methodLink RX3 42 yX3_countCells, .instanceMethod yX3_countCells, .initialized RX3, .selects RX3 yX3_countCells yX3_countCells, .code yX3_isEmpty cX3_isEmpty 2 (some .boolean), .fieldLink RX3 15 "Haltingale$Machine" "writes" "[I", .methodLink RX3 34 yX3_isEmpty, .instanceMethod yX3_isEmpty, .selects RX3 yX3_isEmpty yX3_isEmpty, .methodLink RX7 98 yX3_countEmpty, .instanceMethod yX3_countEmpty, .selects RX3 yX3_countEmpty yX3_countEmpty, .methodLink RX7 258 yX7_countEmptyCells, .instanceMethod yX7_countEmptyCells, .selects RX7 yX7_countEmptyCells yX7_countEmptyCells, .methodLink RL 33 yX7_many, .instanceMethod yX7_many, .selects RX7 yX7_many yX7_many, .code yX7_champion cX7_champion 7 (some .int), .code yX7_asItStops cX7_asItStops 3 (some .int), .fieldLink RX7 24 "Haltingale" "walk" "LHaltingale$Walk;", .code yX6_run cX6_run 4 none, .code yX6_begin cX6_begin 2 none, .fieldLink RX6 15 "Haltingale$Walk" "least" "I", .fieldLink RX6 19 "Haltingale$Walk" "greatest" "I", .fieldLink RX6 26 "Haltingale$Walk" "done" "I", .fieldLink RX6 29 "Haltingale$Walk" "state" "I", .fieldLink RX6 32 "Haltingale$Walk" "place" "I", .code yX6_put cX6_put 3 none, .fieldLink RX6 9 "Haltingale$Walk" "tape" "[I", .methodLink RX6 22 yX6_put, .instanceMethod yX6_put, .initialized RX6, .selects RX6 yX6_put yX6_put, .methodLink RX6 35 yX6_begin, .instanceMethod yX6_begin, .selects RX6 yX6_begin yX6_begin, .code yX6_step cX6_step 3 (some .boolean), .code yX6_read cX6_read 2 (some .int), .methodLink RX6 42 yX6_read, .instanceMethod yX6_read, .selects RX6 yX6_read yX6_read, .code yX6_hasStopped cX6_hasStopped 2 (some .boolean), .fieldLink RX6 73 "Haltingale$Machine" "states" "I", .methodLink RX6 46 yX6_hasStopped, .instanceMethod yX6_hasStopped, .selects RX6 yX6_hasStopped yX6_hasStopped, .methodLink RX6 49 yX3_isEmpty, .code yX3_writeOf cX3_writeOf 2 (some .int), .methodLink RX6 55 yX3_writeOf, .instanceMethod yX3_writeOf, .selects RX3 yX3_writeOf yX3_writeOf, .code yX3_moveOf cX3_moveOf 2 (some .int), .fieldLink RX3 19 "Haltingale$Machine" "moves" "[I", .methodLink RX6 58 yX3_moveOf, .instanceMethod yX3_moveOf, .selects RX3 yX3_moveOf yX3_moveOf, .code yX3_nextOf cX3_nextOf 2 (some .int), .fieldLink RX3 22 "Haltingale$Machine" "nexts" "[I", .methodLink RX6 61 yX3_nextOf, .instanceMethod yX3_nextOf, .selects RX3 yX3_nextOf yX3_nextOf, .methodLink RX6 64 Lib.Math.min.name, .static Lib.Math.min.name, .initialized "java/lang/Math", .code Lib.Math.min.name Lib.Math.min.code 2 (some .int), .methodLink RX6 70 Lib.Math.max.name, .static Lib.Math.max.name, .code Lib.Math.max.name Lib.Math.max.code 2 (some .int), .methodLink RX6 38 yX6_step, .instanceMethod yX6_step, .selects RX6 yX6_step yX6_step, .methodLink RX7 154 yX6_run, .instanceMethod yX6_run, .selects RX6 yX6_run yX6_run, .methodLink RX7 158 yX6_hasStopped, .code yX6_countOnes cX6_countOnes 3 (some .int), .methodLink RX7 209 yX6_countOnes, .instanceMethod yX6_countOnes, .selects RX6 yX6_countOnes yX6_countOnes, .fieldLink RX7 161 "Haltingale$Walk" "done" "I", .fieldLink RX7 206 "Haltingale$Walk" "place" "I", .methodLink RX7 332 Lib.Math.abs.name, .static Lib.Math.abs.name, .code Lib.Math.abs.name Lib.Math.abs.code 1 (some .int), .methodLink RX7 200 yX7_asItStops, .instanceMethod yX7_asItStops, .selects RX7 yX7_asItStops yX7_asItStops, .methodLink RL 94 yX7_champion, .instanceMethod yX7_champion, .selects RX7 yX7_champion yX7_champion, .code yX7_ofMachine cX7_ofMachine 4 (some .int), .fieldLink RX7 107 "Haltingale$Machine" "states" "I", .fieldLink RX7 194 "Haltingale$Machine" "a" "I", .fieldLink RX7 197 "Haltingale$Machine" "b" "I", .code yX7_countWays cX7_countWays 2 (some .int), .code yX6_isHanging cX6_isHanging 2 (some .boolean), .code yX6_metCell cX6_metCell 1 (some .int), .methodLink RX6 76 yX6_metCell, .instanceMethod yX6_metCell, .selects RX6 yX6_metCell yX6_metCell, .methodLink RX7 326 yX6_isHanging, .instanceMethod yX6_isHanging, .selects RX6 yX6_isHanging yX6_isHanging, .code yX3_countFillings cX3_countFillings 3 (some .int), .methodLink RX3 55 Lib.Math.min.name, .code yX3_isEnd cX3_isEnd 2 (some .boolean), .methodLink RX3 38 yX3_nextOf, .methodLink RX3 46 yX3_isEnd, .instanceMethod yX3_isEnd, .selects RX3 yX3_isEnd yX3_isEnd, .methodLink RX3 49 Lib.Math.max.name, .methodLink RX7 329 yX3_countFillings, .instanceMethod yX3_countFillings, .selects RX3 yX3_countFillings yX3_countFillings, .methodLink RX7 104 yX7_countWays, .instanceMethod yX7_countWays, .selects RX7 yX7_countWays yX7_countWays, .methodLink RL 36 yX7_ofMachine, .instanceMethod yX7_ofMachine, .selects RX7 yX7_ofMachine yX7_ofMachine, .code yX7_meanStop cX7_meanStop 5 (some .double), .methodLink RL 97 yX7_meanStop, .instanceMethod yX7_meanStop, .selects RX7 yX7_meanStop yX7_meanStop, .constantDouble RL 101 (4547007122018943789), .code yX7_cell cX7_cell 7 (some .int), .code yX7_findCell cX7_findCell 3 (some .int), .methodLink RX7 71 yX7_findCell, .static yX7_findCell, .methodLink RX7 79 yX3_isEmpty, .methodLink RX7 178 yX3_writeOf, .methodLink RX7 182 yX3_moveOf, .methodLink RX7 185 Lib.Math.max.name, .methodLink RX7 191 yX3_nextOf, .methodLink RL 49 yX7_cell, .instanceMethod yX7_cell, .selects RX7 yX7_cell yX7_cell] : List Cond) ++ wsX70 ++ wsX30 ++ wsX60)
set_option maxHeartbeats 4000000 in
set_option maxRecDepth 100000 in
theorem c_L_isSo (l : Launch) (dC : Nat → ClassId) (dI : Nat → Nat → Nat) (cI cZ cM cT : ClassId) (sz : Nat) (hh : Nat) (ms : List pq_M) (gv : Int) (tn : Int) (tb : Int) (κ : pq_S) (hms : pq_mo ms) (hκ : pq_Sok κ) : Met l yL_isSo zs_c_L_isSo ({ frames := 5, cells := 1, slots := 5, locals := 115 }) (va_Pc [.ref hh] (fun U => U.heap.size = sz ∧ va_P (dC, dI) vwCl ([] ++ (pq_WD cI cZ cM cT hh ms gv tn tb κ)) U.heap ∧ va_K (dC, dI) vwCl (zT4 cI cZ cM cT) U ∧ va_D (fun _ => True) ([] ++ (pq_WD cI cZ cM cT hh ms gv tn tb κ)))) (va_Qi (fun (r : Int32) (_ : Unit) => r = zi 1) (fun _ t => ∃ (κ1 : pq_S), (pq_Sok κ1) ∧ va_P (dC, dI) vwCl ([] ++ (pq_WD cI cZ cM cT hh ms gv tn tb κ1)) t.heap ∧ va_K (dC, dI) vwCl (zT4 cI cZ cM cT) t ∧ va_D (va_A ([] ++ (pq_WD cI cZ cM cT hh ms gv tn tb κ)) sz) ([] ++ (pq_WD cI cZ cM cT hh ms gv tn tb κ1))) (va_A ([] ++ (pq_WD cI cZ cM cT hh ms gv tn tb κ)) sz)) 1 5 (va_A ([] ++ (pq_WD cI cZ cM cT hh ms gv tn tb κ)) sz) := by
  refine Met.ofW (cc := cL_isSo) (maxL := 9) (ret := (some .boolean)) (by decide) rfl ?_
  intro p e s m args below meth c s₁ B hml hv
  obtain ⟨rfl, hsz, hP, hK, hD0⟩ := hv
  have hx := B.exec
  have hb := B.bytes
  have hr := B.returns
  have hts := atoms_spec (ws := zs_c_L_isSo) B.pre
  have hown : s.vm.findClass RL = some m.cls := findClass_of_methodNamed B.named
  have hlocks := B.notSynchronized
  subst hsz
  have hD := hD0.self (sz := s.heap.size)
  generalize hAe : va_A ([] ++ (pq_WD cI cZ cM cT hh ms gv tn tb κ)) s.heap.size = A at hD ⊢
  have hA : ∀ q : Nat, s.heap.size ≤ q → A q := fun q h => by rw [← hAe]; exact Or.inr h
  have hS : va_S A s.heap s.heap [] := va_S.rf
  have hl := lv_entry ([.ref hh]) (n := 9) (Nat.le_of_ble_eq_true rfl)
  rw [lg_entry_eq]
  generalize (lg_sl ([.ref hh]) ++ List.replicate (9 - (lg_sl ([.ref hh])).length) Slot.unset).toArray = ls at hl ⊢
  have hl : lv_has ls 9 [(0, .ref hh)] := hl
  have hml12 := hms.1
  refine lv_iconst (v := zi 5) hx hb dL_isSo_0 (by decide) ?_
  refine pz_newaI (N' := 5) hx hb (hts (.arrayClass .int) (by decide +kernel)) hK hP hD hS hA (by decide) (by decide) (Nat.le_of_ble_eq_true rfl) (Nat.le_of_ble_eq_true rfl) (Nat.le_of_ble_eq_true rfl) dL_isSo_1 (fun q_1 H hP hD hS => ?_)
  have hP := hP.swap
  have hD := hD.swap
  have hP : va_P (dC, dI) vwCl ([(q_1, .inl (cI, 5, .inl (zf (fun _ => 0))))] ++ (pq_WD cI cZ cM cT hh ms gv tn tb κ)) H := hP
  have hD : va_D A ([(q_1, .inl (cI, 5, .inl (zf (fun _ => 0))))] ++ (pq_WD cI cZ cM cT hh ms gv tn tb κ)) := hD
  refine W.widen (k := 1) (n := 5) (Nat.le_of_ble_eq_true rfl) (Nat.le_of_ble_eq_true rfl) ?_
  refine lv_astore_n (lv' := [(1, .ref q_1), (0, .ref hh)]) hx hb dL_isSo_3 rfl hl (by decide) rfl (fun ls hl => ?_)
  refine lv_iconst (v := zi 0) hx hb dL_isSo_4 (by decide) ?_
  refine lv_istore_n (lv' := [(2, .int (zi 0)), (1, .ref q_1), (0, .ref hh)]) hx hb dL_isSo_5 rfl hl (by decide) rfl (fun ls hl => ?_)
  refine lv_iconst (v := zi 0) hx hb dL_isSo_6 (by decide) ?_
  refine lv_istore_n (lv' := [(3, .int (zi 0)), (2, .int (zi 0)), (1, .ref q_1), (0, .ref hh)]) hx hb dL_isSo_7 rfl hl (by decide) rfl (fun ls hl => ?_)
  refine pz_loop (fun n9 H locs ls => ∃ (g : Nat → Int) (e9 : Int) (j : Int) (κ2 : pq_S) , n9 = ((ms.length : Int) - j).toNat ∧ (0 ≤ j ∧ j ≤ (ms.length : Int)) ∧ (∀ t : Nat, t < 5 → g t = pq_ck ((t : Int) - 1) (ms.take j.toNat)) ∧ (e9 = pq_cy (ms.take j.toNat)) ∧ (pq_Sok κ2) ∧ va_P (dC, dI) vwCl ([(q_1, .inl (cI, 5, .inl (zf g)))] ++ (pq_WD cI cZ cM cT hh ms gv tn tb κ2)) H ∧ va_D A ([(q_1, .inl (cI, 5, .inl (zf g)))] ++ (pq_WD cI cZ cM cT hh ms gv tn tb κ2)) ∧ va_S A s.heap H locs ∧ lv_has ls 9 [(0, .ref hh), (1, .ref q_1), (2, .int (zi e9)), (3, .int (zi j))]) (fun n_8 H locs ls hI ih_8 => ?_) _ ⟨fun _ => 0, 0, 0, κ, rfl, (by first | assumption | omega | rfl), (fun t _ => rfl), rfl, hκ, hP, hD, hS, lv_sub hl [3, 2, 1, 0] rfl⟩
  obtain ⟨g, e9, j, κ2, hn_8, hj, hg, he, hκ2, hP, hD, hS, hl⟩ := hI
  refine lv_iload_n hx hb dL_isSo_8 rfl (lv_at hl 3 rfl) ?_
  refine lv_aload_n hx hb dL_isSo_9 rfl (lv_at hl 0 rfl) ?_
  refine lv_iconst (v := zi 0) hx hb dL_isSo_10 (by decide) ?_
  have hPc := hP.part (cx := []) [] rfl
  have hDc := hD.part (cx := []) [] (by decide) rfl
  have hFc := va_freeP (cx := []) hD hS hA [] rfl
  refine va_calli (va_runV (As := [.int (zi 0)]) (rest := [.int (zi j)]) ⟨hx, hb, hml, hown, hts⟩ (c_X7_many l dC dI cI cZ cM cT H.size hh ms gv tn tb κ2 0 (by first | assumption | omega | rfl) (by first | assumption | omega | rfl) (by first | assumption | omega | rfl)) (cwV 1 hts (goodIn_of _ (by decide +kernel)) rfl rfl rfl (by decide +kernel) ⟨Nat.le_of_ble_eq_true rfl, Nat.le_of_ble_eq_true rfl⟩) ⟨fun a U g mk q => by obtain ⟨q0, q1, qP, qK, qD⟩ := q; exact ⟨q0, q1, qP, va_K.moved (u := U) (U := U.calling g mk a) (Vm.Alike.refl U.vm) qK, qD⟩, va_recv hK hPc (ci := 6) (q0 := 0) rfl rfl, fun U hU hW => ⟨rfl, by rw [hU], by rw [hU]; exact hPc, va_K.moved hW.alike hK, hDc.weaken (fun _ _ _ _ => trivial)⟩⟩ rfl rfl hl.1 rfl (lv_room (Nat.le_of_ble_eq_true rfl)) dL_isSo_11 ⟨Nat.le_of_ble_eq_true rfl, Nat.le_of_ble_eq_true rfl⟩) hS (fun q _ h => hFc q h) hFc (fun r_2 u t H1 locs ht hvm hw hB hz1 hk1 hS => ?_)
  obtain ⟨hP1, hK1, hD1⟩ := hB
  rw [ht] at hP1
  obtain ⟨hP, hD⟩ := va_joinP (wr := [(q_1, .inl (cI, 5, .inl (zf g)))]) (rx := []) (pl1 := (pq_WD cI cZ cM cT hh ms gv tn tb κ2)) hP hD [] [0] rfl rfl (by decide) (by decide) hk1 hFc hP1 hD1
  generalize H1 = H at hP hS ⊢
  have hP : va_P (dC, dI) vwCl ([(q_1, .inl (cI, 5, .inl (zf g)))] ++ (pq_WD cI cZ cM cT hh ms gv tn tb κ2)) H := hP
  have hD : va_D A ([(q_1, .inl (cI, 5, .inl (zf g)))] ++ (pq_WD cI cZ cM cT hh ms gv tn tb κ2)) := hD
  refine W.widen (k := 1) (n := 5) (Nat.le_of_ble_eq_true rfl) (Nat.le_of_ble_eq_true rfl) ?_
  obtain rfl : r_2 = zi (pq_ma ms gv tn tb (0 : Int)) := hw
  refine pz_top (y := zi (ms.length : Int)) (congrArg zi (rfl)) ?_
  refine pz_icmp_ge (tgt := 262) hx hb (by omega) dL_isSo_14 (by decide) (fun c_3 => ?_) (fun c_3 => ?_)
  · have hgF : ∀ t : Nat, t < 5 → g t = pq_ck ((t : Int) - 1) ms := fun t ht => by rw [hg t ht, show j.toNat = ms.length by omega, List.take_length]
    have heF : e9 = pq_cy ms := by rw [he, show j.toNat = ms.length by omega, List.take_length]
    refine lv_iconst (v := zi 0) hx hb dL_isSo_262 (by decide) ?_
    refine lv_istore_n (lv' := [(3, .int (zi 0)), (0, .ref hh), (1, .ref q_1), (2, .int (zi e9))]) hx hb dL_isSo_263 rfl hl (by decide) rfl (fun ls hl => ?_)
    refine pz_loop (fun n9 H locs ls => ∃ (j3 : Int) , n9 = (5 - j3).toNat ∧ (0 ≤ j3 ∧ j3 ≤ 5) ∧ va_P (dC, dI) vwCl ([(q_1, .inl (cI, 5, .inl (zf g)))] ++ (pq_WD cI cZ cM cT hh ms gv tn tb κ2)) H ∧ va_D A ([(q_1, .inl (cI, 5, .inl (zf g)))] ++ (pq_WD cI cZ cM cT hh ms gv tn tb κ2)) ∧ va_S A s.heap H locs ∧ lv_has ls 9 [(0, .ref hh), (1, .ref q_1), (2, .int (zi e9)), (3, .int (zi j3))]) (fun n_264 H locs ls hI ih_264 => ?_) _ ⟨0, rfl, (by first | assumption | omega | rfl), hP, hD, hS, lv_sub hl [1, 2, 3, 0] rfl⟩
    obtain ⟨j3, hn_264, hj3, hP, hD, hS, hl⟩ := hI
    refine lv_iload_n hx hb dL_isSo_264 rfl (lv_at hl 3 rfl) ?_
    refine lv_iconst (v := zi 5) hx hb dL_isSo_265 (by decide) ?_
    refine pz_icmp_ge (tgt := 290) hx hb (by omega) dL_isSo_266 (by decide) (fun c_4 => ?_) (fun c_4 => ?_)
    · refine lv_aload_n hx hb dL_isSo_290 rfl (lv_at hl 0 rfl) ?_
      refine lv_iconst (v := zi 1) hx hb dL_isSo_291 (by decide) ?_
      have hPc := hP.part (cx := []) [] rfl
      have hDc := hD.part (cx := []) [] (by decide) rfl
      have hFc := va_freeP (cx := []) hD hS hA [] rfl
      refine va_calli (va_runV (As := [.int (zi 1)]) (rest := []) ⟨hx, hb, hml, hown, hts⟩ (c_X7_champion l dC dI cI cZ cM cT H.size hh ms gv tn tb κ2 1 (by first | assumption | omega | rfl) hκ2 (by first | assumption | omega | rfl)) (cwV 1 hts (goodIn_of _ (by decide +kernel)) rfl rfl rfl (by decide +kernel) ⟨Nat.le_of_ble_eq_true rfl, Nat.le_of_ble_eq_true rfl⟩) ⟨fun a U g mk q => by obtain ⟨q0, q1, qP, qK, qD⟩ := q; exact ⟨q0, q1, qP, va_K.moved (u := U) (U := U.calling g mk a) (Vm.Alike.refl U.vm) qK, qD⟩, va_recv hK hPc (ci := 6) (q0 := 0) rfl rfl, fun U hU hW => ⟨rfl, by rw [hU], by rw [hU]; exact hPc, va_K.moved hW.alike hK, hDc.weaken (fun _ _ _ _ => trivial)⟩⟩ rfl rfl hl.1 rfl (lv_room (Nat.le_of_ble_eq_true rfl)) dL_isSo_292 ⟨Nat.le_of_ble_eq_true rfl, Nat.le_of_ble_eq_true rfl⟩) hS (fun q _ h => hFc q h) hFc (fun r_5 u t H1 locs ht hvm hw hB hz1 hk1 hS => ?_)
      obtain ⟨κ1_6, hz_7, hP1, hK1, hD1⟩ := hB
      rw [ht] at hP1
      obtain ⟨hP, hD⟩ := va_joinP (wr := [(q_1, .inl (cI, 5, .inl (zf g)))]) (rx := []) (pl1 := (pq_WD cI cZ cM cT hh ms gv tn tb κ1_6)) hP hD [] [0] rfl rfl (by decide) (by decide) hk1 hFc hP1 hD1
      generalize H1 = H at hP hS ⊢
      have hP : va_P (dC, dI) vwCl ([(q_1, .inl (cI, 5, .inl (zf g)))] ++ (pq_WD cI cZ cM cT hh ms gv tn tb κ1_6)) H := hP
      have hD : va_D A ([(q_1, .inl (cI, 5, .inl (zf g)))] ++ (pq_WD cI cZ cM cT hh ms gv tn tb κ1_6)) := hD
      refine W.widen (k := 1) (n := 5) (Nat.le_of_ble_eq_true rfl) (Nat.le_of_ble_eq_true rfl) ?_
      obtain rfl : r_5 = zi ((pq_cp ms (1 : Int) ms.length).1) := hw
      have hcs := pq_cp_sp hms ms.length (Nat.le_refl _)
      rw [List.take_length] at hcs
      have hbr : -1 ≤ (pq_cp ms 1 ms.length).1 ∧ (pq_cp ms 1 ms.length).1 ≤ 12 := by rcases hcs with h | ⟨b, h1, h2, -⟩ <;> omega
      have hbc : (pq_cp ms 1 ms.length).1 < 0 ↔ pq_ck 0 ms = 0 := by rcases hcs with h | ⟨b, h1, h2, -, -, h3, -⟩ <;> omega
      have hg1 : g (1 : Int).toNat = pq_ck 0 ms := hgF 1 (by omega)
      have hcb0 := pq_ck_bd 0 ms
      have hcyb := pq_cy_bd hms.2
      refine lv_istore_n (lv' := [(3, .int (zi ((pq_cp ms (1 : Int) ms.length).1))), (0, .ref hh), (1, .ref q_1), (2, .int (zi e9))]) hx hb dL_isSo_295 rfl hl (by decide) rfl (fun ls hl => ?_)
      refine lv_aload_n hx hb dL_isSo_296 rfl (lv_at hl 1 rfl) ?_
      refine lv_bipush (v := zi 10) hx hb dL_isSo_297 (by decide) ?_
      have hPc := hP.part (cx := []) [] rfl
      have hDc := hD.part (cx := []) [] (by decide) rfl
      have hFc := va_freeP (cx := []) hD hS hA [] rfl
      refine va_calli (va_runV (As := [.int (zi 10)]) (rest := []) ⟨hx, hb, hml, hown, hts⟩ (c_X7_many l dC dI cI cZ cM cT H.size hh ms gv tn tb κ1_6 10 (by first | assumption | omega | rfl) hz_7 (by first | assumption | omega | rfl)) (cwV 1 hts (goodIn_of _ (by decide +kernel)) rfl rfl rfl (by decide +kernel) ⟨Nat.le_of_ble_eq_true rfl, Nat.le_of_ble_eq_true rfl⟩) ⟨fun a U g mk q => by obtain ⟨q0, q1, qP, qK, qD⟩ := q; exact ⟨q0, q1, qP, va_K.moved (u := U) (U := U.calling g mk a) (Vm.Alike.refl U.vm) qK, qD⟩, va_recv hK hPc (ci := 6) (q0 := 0) rfl rfl, fun U hU hW => ⟨rfl, by rw [hU], by rw [hU]; exact hPc, va_K.moved hW.alike hK, hDc.weaken (fun _ _ _ _ => trivial)⟩⟩ rfl rfl hl.1 rfl (lv_room (Nat.le_of_ble_eq_true rfl)) dL_isSo_299 ⟨Nat.le_of_ble_eq_true rfl, Nat.le_of_ble_eq_true rfl⟩) hS (fun q _ h => hFc q h) hFc (fun r_8 u t H1 locs ht hvm hw hB hz1 hk1 hS => ?_)
      obtain ⟨hP1, hK1, hD1⟩ := hB
      rw [ht] at hP1
      obtain ⟨hP, hD⟩ := va_joinP (wr := [(q_1, .inl (cI, 5, .inl (zf g)))]) (rx := []) (pl1 := (pq_WD cI cZ cM cT hh ms gv tn tb κ1_6)) hP hD [] [0] rfl rfl (by decide) (by decide) hk1 hFc hP1 hD1
      generalize H1 = H at hP hS ⊢
      have hP : va_P (dC, dI) vwCl ([(q_1, .inl (cI, 5, .inl (zf g)))] ++ (pq_WD cI cZ cM cT hh ms gv tn tb κ1_6)) H := hP
      have hD : va_D A ([(q_1, .inl (cI, 5, .inl (zf g)))] ++ (pq_WD cI cZ cM cT hh ms gv tn tb κ1_6)) := hD
      refine W.widen (k := 1) (n := 5) (Nat.le_of_ble_eq_true rfl) (Nat.le_of_ble_eq_true rfl) ?_
      obtain rfl : r_8 = zi (pq_ma ms gv tn tb (10 : Int)) := hw
      refine pz_top (y := zi (pq_cy ms)) (congrArg zi (rfl)) ?_
      refine lv_iload_n hx hb dL_isSo_302 rfl (lv_at hl 3 rfl) ?_
      refine pz_icmp_ne (tgt := 366) hx hb (by omega) dL_isSo_303 (by decide) (fun c_9 => ?_) (fun c_9 => ?_)
      · exact (show False by omega).elim
      · refine lv_iload_n hx hb dL_isSo_306 rfl (lv_at hl 0 rfl) ?_
        refine pz_if_ge (tgt := 314) hx hb (by omega) dL_isSo_307 (by decide) (fun c_10 => ?_) (fun c_10 => ?_)
        · refine lv_iconst (v := zi 0) hx hb dL_isSo_314 (by decide) ?_
          refine lv_aload_n hx hb dL_isSo_315 rfl (lv_at hl 2 rfl) ?_
          refine lv_iconst (v := zi 1) hx hb dL_isSo_316 (by decide) ?_
          refine pz_iald hx hb hK hP 0 0 rfl rfl (i := 1) (by omega) dL_isSo_317 ?_
          refine pz_if_ne (tgt := 325) hx hb (by omega) dL_isSo_318 (by decide) (fun c_11 => ?_) (fun c_11 => ?_)
          · refine lv_iconst (v := zi 0) hx hb dL_isSo_325 (by decide) ?_
            refine pz_icmp_ne (tgt := 366) hx hb (by omega) dL_isSo_326 (by decide) (fun c_12 => ?_) (fun c_12 => ?_)
            · exact absurd c_12 (by omega)
            · refine lv_iload_n hx hb dL_isSo_329 rfl (lv_at hl 0 rfl) ?_
              refine pz_if_lt (tgt := 362) hx hb (by omega) dL_isSo_330 (by decide) (fun c_13 => ?_) (fun c_13 => ?_)
              · refine lv_iconst (v := zi 1) hx hb dL_isSo_362 (by decide) ?_
                refine lv_goto (tgt := 367) hx hb dL_isSo_363 (by decide) ?_
                have hP := hP.part (cx := []) [] rfl
                have hD := hD.part (cx := []) [] (by decide) rfl
                refine W.widen (k := 1) (n := 5) (Nat.le_of_ble_eq_true rfl) (Nat.le_of_ble_eq_true rfl) ?_
                exact W.zret (v := (zi 1)) hx hb hr (pz_nar (by first | omega | exact pb_or _)) (fun t ht hW => ⟨⟨(zi 1), (), rfl, rfl, ⟨κ1_6, hz_7, by rw [ht]; exact hP, va_K.moved hW.alike hK, hD⟩⟩, hS.F ht⟩) hS.2.2 dL_isSo_367
              · obtain ⟨b8, hb1, hb2, ⟨μ8, hb3, hb4, hb5⟩, hb6, hb7, hb8⟩ := hcs.resolve_left (fun h => by omega)
                obtain ⟨am8, aw8, av8, ax8, T8, k8, a8, c8⟩ := μ8
                have hμ8 : ms[(pq_cp ms 1 ms.length).1.toNat]? = some (am8, aw8, av8, ax8, T8, k8, a8, c8) := by rw [hb2, Int.toNat_natCast]; exact hb3
                have hk8 : k8 = 0 := hb4
                have ha8 : pq_as T8 7 = (pq_cp ms 1 ms.length).2 := hb5
                have hs8 := pq_sa_bd hms.2
                have hml12 := hms.1
                have hr8 := pq_as_rg (pq_mo_at hms hμ8).1 7
                have hfm := pq_fm_ok (s := pq_sa ms) (c := pq_ck 0 ms) (m := pq_as T8 7) ⟨hb7, by omega⟩ (by omega) (by omega) (by rw [ha8]; exact hb8)
                refine lv_aload_n hx hb dL_isSo_333 rfl (lv_at hl 1 rfl) ?_
                refine lv_iload_n hx hb dL_isSo_334 rfl (lv_at hl 0 rfl) ?_
                refine lv_iconst (v := zi 2) hx hb dL_isSo_335 (by decide) ?_
                have hPc := hP.part (cx := []) [] rfl
                have hDc := hD.part (cx := []) [] (by decide) rfl
                have hFc := va_freeP (cx := []) hD hS hA [] rfl
                refine va_calli (va_runV (As := [.int (zi ((pq_cp ms (1 : Int) ms.length).1)), .int (zi 2)]) (rest := []) ⟨hx, hb, hml, hown, hts⟩ (c_X7_ofMachine l dC dI cI cZ cM cT H.size hh ms gv tn tb κ1_6 ((pq_cp ms (1 : Int) ms.length).1) am8 aw8 av8 ax8 T8 k8 a8 c8 2 (by first | assumption | omega | rfl) hz_7 (by first | assumption | omega | rfl) hμ8 (by first | assumption | omega | rfl)) (cwV 2 hts (goodIn_of _ (by decide +kernel)) rfl rfl rfl (by decide +kernel) ⟨Nat.le_of_ble_eq_true rfl, Nat.le_of_ble_eq_true rfl⟩) ⟨fun a U g mk q => by obtain ⟨q0, q1, qP, qK, qD⟩ := q; exact ⟨q0, q1, qP, va_K.moved (u := U) (U := U.calling g mk a) (Vm.Alike.refl U.vm) qK, qD⟩, va_recv hK hPc (ci := 6) (q0 := 0) rfl rfl, fun U hU hW => ⟨rfl, by rw [hU], by rw [hU]; exact hPc, va_K.moved hW.alike hK, hDc.weaken (fun _ _ _ _ => trivial)⟩⟩ rfl rfl hl.1 rfl (lv_room (Nat.le_of_ble_eq_true rfl)) dL_isSo_336 ⟨Nat.le_of_ble_eq_true rfl, Nat.le_of_ble_eq_true rfl⟩) hS (fun q _ h => hFc q h) hFc (fun r_14 u t H1 locs ht hvm hw hB hz1 hk1 hS => ?_)
                obtain ⟨κ1_15, hz_16, hP1, hK1, hD1⟩ := hB
                rw [ht] at hP1
                obtain ⟨hP, hD⟩ := va_joinP (wr := [(q_1, .inl (cI, 5, .inl (zf g)))]) (rx := []) (pl1 := (pq_WD cI cZ cM cT hh ms gv tn tb κ1_15)) hP hD [] [0] rfl rfl (by decide) (by decide) hk1 hFc hP1 hD1
                generalize H1 = H at hP hS ⊢
                have hP : va_P (dC, dI) vwCl ([(q_1, .inl (cI, 5, .inl (zf g)))] ++ (pq_WD cI cZ cM cT hh ms gv tn tb κ1_15)) H := hP
                have hD : va_D A ([(q_1, .inl (cI, 5, .inl (zf g)))] ++ (pq_WD cI cZ cM cT hh ms gv tn tb κ1_15)) := hD
                refine W.widen (k := 1) (n := 5) (Nat.le_of_ble_eq_true rfl) (Nat.le_of_ble_eq_true rfl) ?_
                obtain rfl : r_14 = zi (pq_om T8 k8 a8 c8 (2 : Int)) := hw
                refine pz_top (y := zi k8) (congrArg zi (rfl)) ?_
                refine pz_if_ne (tgt := 366) hx hb (by omega) dL_isSo_339 (by decide) (fun c_17 => ?_) (fun c_17 => ?_)
                · exact (show False by omega).elim
                · refine lv_aload_n hx hb dL_isSo_342 rfl (lv_at hl 1 rfl) ?_
                  refine lv_iload_n hx hb dL_isSo_343 rfl (lv_at hl 0 rfl) ?_
                  refine lv_bipush (v := zi 7) hx hb dL_isSo_344 (by decide) ?_
                  have hPc := hP.part (cx := []) [] rfl
                  have hDc := hD.part (cx := []) [] (by decide) rfl
                  have hFc := va_freeP (cx := []) hD hS hA [] rfl
                  refine va_calli (va_runV (As := [.int (zi ((pq_cp ms (1 : Int) ms.length).1)), .int (zi 7)]) (rest := []) ⟨hx, hb, hml, hown, hts⟩ (c_X7_ofMachine l dC dI cI cZ cM cT H.size hh ms gv tn tb κ1_15 ((pq_cp ms (1 : Int) ms.length).1) am8 aw8 av8 ax8 T8 k8 a8 c8 7 (by first | assumption | omega | rfl) hz_16 (by first | assumption | omega | rfl) hμ8 (by first | assumption | omega | rfl)) (cwV 2 hts (goodIn_of _ (by decide +kernel)) rfl rfl rfl (by decide +kernel) ⟨Nat.le_of_ble_eq_true rfl, Nat.le_of_ble_eq_true rfl⟩) ⟨fun a U g mk q => by obtain ⟨q0, q1, qP, qK, qD⟩ := q; exact ⟨q0, q1, qP, va_K.moved (u := U) (U := U.calling g mk a) (Vm.Alike.refl U.vm) qK, qD⟩, va_recv hK hPc (ci := 6) (q0 := 0) rfl rfl, fun U hU hW => ⟨rfl, by rw [hU], by rw [hU]; exact hPc, va_K.moved hW.alike hK, hDc.weaken (fun _ _ _ _ => trivial)⟩⟩ rfl rfl hl.1 rfl (lv_room (Nat.le_of_ble_eq_true rfl)) dL_isSo_346 ⟨Nat.le_of_ble_eq_true rfl, Nat.le_of_ble_eq_true rfl⟩) hS (fun q _ h => hFc q h) hFc (fun r_18 u t H1 locs ht hvm hw hB hz1 hk1 hS => ?_)
                  obtain ⟨κ1_19, hz_20, hP1, hK1, hD1⟩ := hB
                  rw [ht] at hP1
                  obtain ⟨hP, hD⟩ := va_joinP (wr := [(q_1, .inl (cI, 5, .inl (zf g)))]) (rx := []) (pl1 := (pq_WD cI cZ cM cT hh ms gv tn tb κ1_19)) hP hD [] [0] rfl rfl (by decide) (by decide) hk1 hFc hP1 hD1
                  generalize H1 = H at hP hS ⊢
                  have hP : va_P (dC, dI) vwCl ([(q_1, .inl (cI, 5, .inl (zf g)))] ++ (pq_WD cI cZ cM cT hh ms gv tn tb κ1_19)) H := hP
                  have hD : va_D A ([(q_1, .inl (cI, 5, .inl (zf g)))] ++ (pq_WD cI cZ cM cT hh ms gv tn tb κ1_19)) := hD
                  refine W.widen (k := 1) (n := 5) (Nat.le_of_ble_eq_true rfl) (Nat.le_of_ble_eq_true rfl) ?_
                  obtain rfl : r_18 = zi (pq_om T8 k8 a8 c8 (7 : Int)) := hw
                  refine pz_top (y := zi (pq_as T8 7)) (congrArg zi (rfl)) ?_
                  refine lv_i2d hx hb dL_isSo_349 ?_
                  refine lv_aload_n hx hb dL_isSo_350 rfl (lv_at hl 1 rfl) ?_
                  have hPc := hP.part (cx := []) [] rfl
                  have hDc := hD.part (cx := []) [] (by decide) rfl
                  have hFc := va_freeP (cx := []) hD hS hA [] rfl
                  refine va_calld (va_runV (As := []) (rest := [.double (FP.i2d (zi (pq_as T8 7)))]) ⟨hx, hb, hml, hown, hts⟩ (c_X7_meanStop l dC dI cI cZ cM cT H.size hh ms gv tn tb κ1_19 (by first | assumption | omega | rfl) hz_20 (by first | assumption | omega | rfl)) (cwV 0 hts (goodIn_of _ (by decide +kernel)) rfl rfl rfl (by decide +kernel) ⟨Nat.le_of_ble_eq_true rfl, Nat.le_of_ble_eq_true rfl⟩) ⟨fun a U g mk q => by obtain ⟨q0, q1, qP, qK, qD⟩ := q; exact ⟨q0, q1, qP, va_K.moved (u := U) (U := U.calling g mk a) (Vm.Alike.refl U.vm) qK, qD⟩, va_recv hK hPc (ci := 6) (q0 := 0) rfl rfl, fun U hU hW => ⟨rfl, by rw [hU], by rw [hU]; exact hPc, va_K.moved hW.alike hK, hDc.weaken (fun _ _ _ _ => trivial)⟩⟩ rfl rfl hl.1 rfl (lv_room (Nat.le_of_ble_eq_true rfl)) dL_isSo_351 ⟨Nat.le_of_ble_eq_true rfl, Nat.le_of_ble_eq_true rfl⟩) hS (fun q _ h => hFc q h) hFc (fun r_21 u t H1 locs ht hvm hw hB hz1 hk1 hS => ?_)
                  obtain ⟨hP1, hK1, hD1⟩ := hB
                  rw [ht] at hP1
                  obtain ⟨hP, hD⟩ := va_joinP (wr := [(q_1, .inl (cI, 5, .inl (zf g)))]) (rx := []) (pl1 := (pq_WD cI cZ cM cT hh ms gv tn tb κ1_19)) hP hD [] [0] rfl rfl (by decide) (by decide) hk1 hFc hP1 hD1
                  generalize H1 = H at hP hS ⊢
                  have hP : va_P (dC, dI) vwCl ([(q_1, .inl (cI, 5, .inl (zf g)))] ++ (pq_WD cI cZ cM cT hh ms gv tn tb κ1_19)) H := hP
                  have hD : va_D A ([(q_1, .inl (cI, 5, .inl (zf g)))] ++ (pq_WD cI cZ cM cT hh ms gv tn tb κ1_19)) := hD
                  refine W.widen (k := 1) (n := 5) (Nat.le_of_ble_eq_true rfl) (Nat.le_of_ble_eq_true rfl) ?_
                  obtain rfl : r_21 = FP.ddiv (FP.i2d (zi (pq_sa ms))) (FP.i2d (zi (pq_ck 0 ms))) := hw
                  refine lv_ldc2d (v := 4547007122018943789) hx hb hown (hts (.constantDouble RL 101 (4547007122018943789)) (by decide +kernel)) dL_isSo_354 ?_
                  refine lv_dsub hx hb dL_isSo_357 hfm.2.1 ?_
                  refine lv_dcmp hx hb dL_isSo_358 ?_
                  refine lv_if_lt (tgt := 366) hx hb dL_isSo_359 (by decide) (fun c_22 => ?_) (fun c_22 => ?_)
                  · exact absurd c_22 (pq_cmpv hfm.2.2)
                  · refine lv_iconst (v := zi 1) hx hb dL_isSo_362 (by decide) ?_
                    refine lv_goto (tgt := 367) hx hb dL_isSo_363 (by decide) ?_
                    have hP := hP.part (cx := []) [] rfl
                    have hD := hD.part (cx := []) [] (by decide) rfl
                    refine W.widen (k := 1) (n := 5) (Nat.le_of_ble_eq_true rfl) (Nat.le_of_ble_eq_true rfl) ?_
                    exact W.zret (v := (zi 1)) hx hb hr (pz_nar (by first | omega | exact pb_or _)) (fun t ht hW => ⟨⟨(zi 1), (), rfl, rfl, ⟨κ1_19, hz_20, by rw [ht]; exact hP, va_K.moved hW.alike hK, hD⟩⟩, hS.F ht⟩) hS.2.2 dL_isSo_367
          · refine lv_iconst (v := zi 1) hx hb dL_isSo_321 (by decide) ?_
            refine lv_goto (tgt := 326) hx hb dL_isSo_322 (by decide) ?_
            refine pz_icmp_ne (tgt := 366) hx hb (by omega) dL_isSo_326 (by decide) (fun c_23 => ?_) (fun c_23 => ?_)
            · exact (show False by omega).elim
            · exact absurd c_23 (by omega)
        · refine lv_iconst (v := zi 1) hx hb dL_isSo_310 (by decide) ?_
          refine lv_goto (tgt := 315) hx hb dL_isSo_311 (by decide) ?_
          refine lv_aload_n hx hb dL_isSo_315 rfl (lv_at hl 2 rfl) ?_
          refine lv_iconst (v := zi 1) hx hb dL_isSo_316 (by decide) ?_
          refine pz_iald hx hb hK hP 0 0 rfl rfl (i := 1) (by omega) dL_isSo_317 ?_
          refine pz_if_ne (tgt := 325) hx hb (by omega) dL_isSo_318 (by decide) (fun c_24 => ?_) (fun c_24 => ?_)
          · refine lv_iconst (v := zi 0) hx hb dL_isSo_325 (by decide) ?_
            refine pz_icmp_ne (tgt := 366) hx hb (by omega) dL_isSo_326 (by decide) (fun c_25 => ?_) (fun c_25 => ?_)
            · exact (show False by omega).elim
            · exact absurd c_25 (by omega)
          · refine lv_iconst (v := zi 1) hx hb dL_isSo_321 (by decide) ?_
            refine lv_goto (tgt := 326) hx hb dL_isSo_322 (by decide) ?_
            refine pz_icmp_ne (tgt := 366) hx hb (by omega) dL_isSo_326 (by decide) (fun c_26 => ?_) (fun c_26 => ?_)
            · exact absurd c_26 (by omega)
            · refine lv_iload_n hx hb dL_isSo_329 rfl (lv_at hl 0 rfl) ?_
              refine pz_if_lt (tgt := 362) hx hb (by omega) dL_isSo_330 (by decide) (fun c_27 => ?_) (fun c_27 => ?_)
              · refine lv_iconst (v := zi 1) hx hb dL_isSo_362 (by decide) ?_
                refine lv_goto (tgt := 367) hx hb dL_isSo_363 (by decide) ?_
                have hP := hP.part (cx := []) [] rfl
                have hD := hD.part (cx := []) [] (by decide) rfl
                refine W.widen (k := 1) (n := 5) (Nat.le_of_ble_eq_true rfl) (Nat.le_of_ble_eq_true rfl) ?_
                exact W.zret (v := (zi 1)) hx hb hr (pz_nar (by first | omega | exact pb_or _)) (fun t ht hW => ⟨⟨(zi 1), (), rfl, rfl, ⟨κ1_6, hz_7, by rw [ht]; exact hP, va_K.moved hW.alike hK, hD⟩⟩, hS.F ht⟩) hS.2.2 dL_isSo_367
              · obtain ⟨b8, hb1, hb2, ⟨μ8, hb3, hb4, hb5⟩, hb6, hb7, hb8⟩ := hcs.resolve_left (fun h => by omega)
                obtain ⟨am8, aw8, av8, ax8, T8, k8, a8, c8⟩ := μ8
                have hμ8 : ms[(pq_cp ms 1 ms.length).1.toNat]? = some (am8, aw8, av8, ax8, T8, k8, a8, c8) := by rw [hb2, Int.toNat_natCast]; exact hb3
                have hk8 : k8 = 0 := hb4
                have ha8 : pq_as T8 7 = (pq_cp ms 1 ms.length).2 := hb5
                have hs8 := pq_sa_bd hms.2
                have hml12 := hms.1
                have hr8 := pq_as_rg (pq_mo_at hms hμ8).1 7
                have hfm := pq_fm_ok (s := pq_sa ms) (c := pq_ck 0 ms) (m := pq_as T8 7) ⟨hb7, by omega⟩ (by omega) (by omega) (by rw [ha8]; exact hb8)
                refine lv_aload_n hx hb dL_isSo_333 rfl (lv_at hl 1 rfl) ?_
                refine lv_iload_n hx hb dL_isSo_334 rfl (lv_at hl 0 rfl) ?_
                refine lv_iconst (v := zi 2) hx hb dL_isSo_335 (by decide) ?_
                have hPc := hP.part (cx := []) [] rfl
                have hDc := hD.part (cx := []) [] (by decide) rfl
                have hFc := va_freeP (cx := []) hD hS hA [] rfl
                refine va_calli (va_runV (As := [.int (zi ((pq_cp ms (1 : Int) ms.length).1)), .int (zi 2)]) (rest := []) ⟨hx, hb, hml, hown, hts⟩ (c_X7_ofMachine l dC dI cI cZ cM cT H.size hh ms gv tn tb κ1_6 ((pq_cp ms (1 : Int) ms.length).1) am8 aw8 av8 ax8 T8 k8 a8 c8 2 (by first | assumption | omega | rfl) hz_7 (by first | assumption | omega | rfl) hμ8 (by first | assumption | omega | rfl)) (cwV 2 hts (goodIn_of _ (by decide +kernel)) rfl rfl rfl (by decide +kernel) ⟨Nat.le_of_ble_eq_true rfl, Nat.le_of_ble_eq_true rfl⟩) ⟨fun a U g mk q => by obtain ⟨q0, q1, qP, qK, qD⟩ := q; exact ⟨q0, q1, qP, va_K.moved (u := U) (U := U.calling g mk a) (Vm.Alike.refl U.vm) qK, qD⟩, va_recv hK hPc (ci := 6) (q0 := 0) rfl rfl, fun U hU hW => ⟨rfl, by rw [hU], by rw [hU]; exact hPc, va_K.moved hW.alike hK, hDc.weaken (fun _ _ _ _ => trivial)⟩⟩ rfl rfl hl.1 rfl (lv_room (Nat.le_of_ble_eq_true rfl)) dL_isSo_336 ⟨Nat.le_of_ble_eq_true rfl, Nat.le_of_ble_eq_true rfl⟩) hS (fun q _ h => hFc q h) hFc (fun r_28 u t H1 locs ht hvm hw hB hz1 hk1 hS => ?_)
                obtain ⟨κ1_29, hz_30, hP1, hK1, hD1⟩ := hB
                rw [ht] at hP1
                obtain ⟨hP, hD⟩ := va_joinP (wr := [(q_1, .inl (cI, 5, .inl (zf g)))]) (rx := []) (pl1 := (pq_WD cI cZ cM cT hh ms gv tn tb κ1_29)) hP hD [] [0] rfl rfl (by decide) (by decide) hk1 hFc hP1 hD1
                generalize H1 = H at hP hS ⊢
                have hP : va_P (dC, dI) vwCl ([(q_1, .inl (cI, 5, .inl (zf g)))] ++ (pq_WD cI cZ cM cT hh ms gv tn tb κ1_29)) H := hP
                have hD : va_D A ([(q_1, .inl (cI, 5, .inl (zf g)))] ++ (pq_WD cI cZ cM cT hh ms gv tn tb κ1_29)) := hD
                refine W.widen (k := 1) (n := 5) (Nat.le_of_ble_eq_true rfl) (Nat.le_of_ble_eq_true rfl) ?_
                obtain rfl : r_28 = zi (pq_om T8 k8 a8 c8 (2 : Int)) := hw
                refine pz_top (y := zi k8) (congrArg zi (rfl)) ?_
                refine pz_if_ne (tgt := 366) hx hb (by omega) dL_isSo_339 (by decide) (fun c_31 => ?_) (fun c_31 => ?_)
                · exact (show False by omega).elim
                · refine lv_aload_n hx hb dL_isSo_342 rfl (lv_at hl 1 rfl) ?_
                  refine lv_iload_n hx hb dL_isSo_343 rfl (lv_at hl 0 rfl) ?_
                  refine lv_bipush (v := zi 7) hx hb dL_isSo_344 (by decide) ?_
                  have hPc := hP.part (cx := []) [] rfl
                  have hDc := hD.part (cx := []) [] (by decide) rfl
                  have hFc := va_freeP (cx := []) hD hS hA [] rfl
                  refine va_calli (va_runV (As := [.int (zi ((pq_cp ms (1 : Int) ms.length).1)), .int (zi 7)]) (rest := []) ⟨hx, hb, hml, hown, hts⟩ (c_X7_ofMachine l dC dI cI cZ cM cT H.size hh ms gv tn tb κ1_29 ((pq_cp ms (1 : Int) ms.length).1) am8 aw8 av8 ax8 T8 k8 a8 c8 7 (by first | assumption | omega | rfl) hz_30 (by first | assumption | omega | rfl) hμ8 (by first | assumption | omega | rfl)) (cwV 2 hts (goodIn_of _ (by decide +kernel)) rfl rfl rfl (by decide +kernel) ⟨Nat.le_of_ble_eq_true rfl, Nat.le_of_ble_eq_true rfl⟩) ⟨fun a U g mk q => by obtain ⟨q0, q1, qP, qK, qD⟩ := q; exact ⟨q0, q1, qP, va_K.moved (u := U) (U := U.calling g mk a) (Vm.Alike.refl U.vm) qK, qD⟩, va_recv hK hPc (ci := 6) (q0 := 0) rfl rfl, fun U hU hW => ⟨rfl, by rw [hU], by rw [hU]; exact hPc, va_K.moved hW.alike hK, hDc.weaken (fun _ _ _ _ => trivial)⟩⟩ rfl rfl hl.1 rfl (lv_room (Nat.le_of_ble_eq_true rfl)) dL_isSo_346 ⟨Nat.le_of_ble_eq_true rfl, Nat.le_of_ble_eq_true rfl⟩) hS (fun q _ h => hFc q h) hFc (fun r_32 u t H1 locs ht hvm hw hB hz1 hk1 hS => ?_)
                  obtain ⟨κ1_33, hz_34, hP1, hK1, hD1⟩ := hB
                  rw [ht] at hP1
                  obtain ⟨hP, hD⟩ := va_joinP (wr := [(q_1, .inl (cI, 5, .inl (zf g)))]) (rx := []) (pl1 := (pq_WD cI cZ cM cT hh ms gv tn tb κ1_33)) hP hD [] [0] rfl rfl (by decide) (by decide) hk1 hFc hP1 hD1
                  generalize H1 = H at hP hS ⊢
                  have hP : va_P (dC, dI) vwCl ([(q_1, .inl (cI, 5, .inl (zf g)))] ++ (pq_WD cI cZ cM cT hh ms gv tn tb κ1_33)) H := hP
                  have hD : va_D A ([(q_1, .inl (cI, 5, .inl (zf g)))] ++ (pq_WD cI cZ cM cT hh ms gv tn tb κ1_33)) := hD
                  refine W.widen (k := 1) (n := 5) (Nat.le_of_ble_eq_true rfl) (Nat.le_of_ble_eq_true rfl) ?_
                  obtain rfl : r_32 = zi (pq_om T8 k8 a8 c8 (7 : Int)) := hw
                  refine pz_top (y := zi (pq_as T8 7)) (congrArg zi (rfl)) ?_
                  refine lv_i2d hx hb dL_isSo_349 ?_
                  refine lv_aload_n hx hb dL_isSo_350 rfl (lv_at hl 1 rfl) ?_
                  have hPc := hP.part (cx := []) [] rfl
                  have hDc := hD.part (cx := []) [] (by decide) rfl
                  have hFc := va_freeP (cx := []) hD hS hA [] rfl
                  refine va_calld (va_runV (As := []) (rest := [.double (FP.i2d (zi (pq_as T8 7)))]) ⟨hx, hb, hml, hown, hts⟩ (c_X7_meanStop l dC dI cI cZ cM cT H.size hh ms gv tn tb κ1_33 (by first | assumption | omega | rfl) hz_34 (by first | assumption | omega | rfl)) (cwV 0 hts (goodIn_of _ (by decide +kernel)) rfl rfl rfl (by decide +kernel) ⟨Nat.le_of_ble_eq_true rfl, Nat.le_of_ble_eq_true rfl⟩) ⟨fun a U g mk q => by obtain ⟨q0, q1, qP, qK, qD⟩ := q; exact ⟨q0, q1, qP, va_K.moved (u := U) (U := U.calling g mk a) (Vm.Alike.refl U.vm) qK, qD⟩, va_recv hK hPc (ci := 6) (q0 := 0) rfl rfl, fun U hU hW => ⟨rfl, by rw [hU], by rw [hU]; exact hPc, va_K.moved hW.alike hK, hDc.weaken (fun _ _ _ _ => trivial)⟩⟩ rfl rfl hl.1 rfl (lv_room (Nat.le_of_ble_eq_true rfl)) dL_isSo_351 ⟨Nat.le_of_ble_eq_true rfl, Nat.le_of_ble_eq_true rfl⟩) hS (fun q _ h => hFc q h) hFc (fun r_35 u t H1 locs ht hvm hw hB hz1 hk1 hS => ?_)
                  obtain ⟨hP1, hK1, hD1⟩ := hB
                  rw [ht] at hP1
                  obtain ⟨hP, hD⟩ := va_joinP (wr := [(q_1, .inl (cI, 5, .inl (zf g)))]) (rx := []) (pl1 := (pq_WD cI cZ cM cT hh ms gv tn tb κ1_33)) hP hD [] [0] rfl rfl (by decide) (by decide) hk1 hFc hP1 hD1
                  generalize H1 = H at hP hS ⊢
                  have hP : va_P (dC, dI) vwCl ([(q_1, .inl (cI, 5, .inl (zf g)))] ++ (pq_WD cI cZ cM cT hh ms gv tn tb κ1_33)) H := hP
                  have hD : va_D A ([(q_1, .inl (cI, 5, .inl (zf g)))] ++ (pq_WD cI cZ cM cT hh ms gv tn tb κ1_33)) := hD
                  refine W.widen (k := 1) (n := 5) (Nat.le_of_ble_eq_true rfl) (Nat.le_of_ble_eq_true rfl) ?_
                  obtain rfl : r_35 = FP.ddiv (FP.i2d (zi (pq_sa ms))) (FP.i2d (zi (pq_ck 0 ms))) := hw
                  refine lv_ldc2d (v := 4547007122018943789) hx hb hown (hts (.constantDouble RL 101 (4547007122018943789)) (by decide +kernel)) dL_isSo_354 ?_
                  refine lv_dsub hx hb dL_isSo_357 hfm.2.1 ?_
                  refine lv_dcmp hx hb dL_isSo_358 ?_
                  refine lv_if_lt (tgt := 366) hx hb dL_isSo_359 (by decide) (fun c_36 => ?_) (fun c_36 => ?_)
                  · exact absurd c_36 (pq_cmpv hfm.2.2)
                  · refine lv_iconst (v := zi 1) hx hb dL_isSo_362 (by decide) ?_
                    refine lv_goto (tgt := 367) hx hb dL_isSo_363 (by decide) ?_
                    have hP := hP.part (cx := []) [] rfl
                    have hD := hD.part (cx := []) [] (by decide) rfl
                    refine W.widen (k := 1) (n := 5) (Nat.le_of_ble_eq_true rfl) (Nat.le_of_ble_eq_true rfl) ?_
                    exact W.zret (v := (zi 1)) hx hb hr (pz_nar (by first | omega | exact pb_or _)) (fun t ht hW => ⟨⟨(zi 1), (), rfl, rfl, ⟨κ1_33, hz_34, by rw [ht]; exact hP, va_K.moved hW.alike hK, hD⟩⟩, hS.F ht⟩) hS.2.2 dL_isSo_367
    · refine lv_aload_n hx hb dL_isSo_269 rfl (lv_at hl 0 rfl) ?_
      refine lv_iconst (v := zi 1) hx hb dL_isSo_270 (by decide) ?_
      refine lv_iload_n hx hb dL_isSo_271 rfl (lv_at hl 3 rfl) ?_
      refine pz_iadd hx hb dL_isSo_272 ?_
      have hPc := hP.part (cx := []) [] rfl
      have hDc := hD.part (cx := []) [] (by decide) rfl
      have hFc := va_freeP (cx := []) hD hS hA [] rfl
      refine va_calli (va_runV (As := [.int (zi (1 + j3))]) (rest := []) ⟨hx, hb, hml, hown, hts⟩ (c_X7_many l dC dI cI cZ cM cT H.size hh ms gv tn tb κ2 (1 + j3) (by first | assumption | omega | rfl) hκ2 (by first | assumption | omega | rfl)) (cwV 1 hts (goodIn_of _ (by decide +kernel)) rfl rfl rfl (by decide +kernel) ⟨Nat.le_of_ble_eq_true rfl, Nat.le_of_ble_eq_true rfl⟩) ⟨fun a U g mk q => by obtain ⟨q0, q1, qP, qK, qD⟩ := q; exact ⟨q0, q1, qP, va_K.moved (u := U) (U := U.calling g mk a) (Vm.Alike.refl U.vm) qK, qD⟩, va_recv hK hPc (ci := 6) (q0 := 0) rfl rfl, fun U hU hW => ⟨rfl, by rw [hU], by rw [hU]; exact hPc, va_K.moved hW.alike hK, hDc.weaken (fun _ _ _ _ => trivial)⟩⟩ rfl rfl hl.1 rfl (lv_room (Nat.le_of_ble_eq_true rfl)) dL_isSo_273 ⟨Nat.le_of_ble_eq_true rfl, Nat.le_of_ble_eq_true rfl⟩) hS (fun q _ h => hFc q h) hFc (fun r_37 u t H1 locs ht hvm hw hB hz1 hk1 hS => ?_)
      obtain ⟨hP1, hK1, hD1⟩ := hB
      rw [ht] at hP1
      obtain ⟨hP, hD⟩ := va_joinP (wr := [(q_1, .inl (cI, 5, .inl (zf g)))]) (rx := []) (pl1 := (pq_WD cI cZ cM cT hh ms gv tn tb κ2)) hP hD [] [0] rfl rfl (by decide) (by decide) hk1 hFc hP1 hD1
      generalize H1 = H at hP hS ⊢
      have hP : va_P (dC, dI) vwCl ([(q_1, .inl (cI, 5, .inl (zf g)))] ++ (pq_WD cI cZ cM cT hh ms gv tn tb κ2)) H := hP
      have hD : va_D A ([(q_1, .inl (cI, 5, .inl (zf g)))] ++ (pq_WD cI cZ cM cT hh ms gv tn tb κ2)) := hD
      refine W.widen (k := 1) (n := 5) (Nat.le_of_ble_eq_true rfl) (Nat.le_of_ble_eq_true rfl) ?_
      obtain rfl : r_37 = zi (pq_ma ms gv tn tb (1 + j3)) := hw
      refine pz_top (y := zi (pq_ck (j3 - 1) ms)) (congrArg zi (pq_ma_k (by omega))) ?_
      refine lv_aload_n hx hb dL_isSo_276 rfl (lv_at hl 1 rfl) ?_
      refine lv_iload_n hx hb dL_isSo_277 rfl (lv_at hl 3 rfl) ?_
      refine pz_iald hx hb hK hP 0 0 rfl rfl (i := j3) (by omega) dL_isSo_278 ?_
      have hg3 := hgF j3.toNat (by omega)
      rw [Int.toNat_of_nonneg hj3.1] at hg3
      have hcb3 := pq_ck_bd (j3 - 1) ms
      refine pz_icmp_eq (tgt := 284) hx hb (by omega) dL_isSo_279 (by decide) (fun c_38 => ?_) (fun c_38 => ?_)
      · refine pz_iinc (lv' := [(3, .int (zi (j3 + 1))), (0, .ref hh), (1, .ref q_1), (2, .int (zi e9))]) hx hb dL_isSo_284 hl (k := 3) rfl (by decide) rfl (fun ls hl => ?_)
        refine lv_goto (tgt := 264) hx hb dL_isSo_287 (by decide) ?_
        exact ih_264 _ _ _ _ ⟨j3 + 1, rfl, (by first | assumption | omega | rfl), hP, hD, hS, lv_sub hl [1, 2, 3, 0] rfl⟩ (by omega)
      · exact (show False by omega).elim
  · obtain ⟨⟨am, aw, av, ax, T, kk, ka, kb⟩, hμ⟩ : ∃ μ, ms[j.toNat]? = some μ := ⟨_, List.getElem?_eq_getElem (by omega)⟩
    have hmk := pq_mo_at hms hμ
    have hok : pq_ok T := hmk.1
    have hn := hok.1
    have hkr := pq_mok_k hmk
    obtain ⟨hA9, hB9, hC9, hD9, hE9⟩ := pq_so hmk
    have hwr := pq_ways_rg hok
    have ha6 := pq_as_rg hok 6
    have ha7 := pq_as_rg hok 7
    have hcb := pq_ce_bd T (2 * pq_n T).toNat
    refine lv_aload_n hx hb dL_isSo_17 rfl (lv_at hl 0 rfl) ?_
    refine lv_iload_n hx hb dL_isSo_18 rfl (lv_at hl 3 rfl) ?_
    refine lv_iconst (v := zi 2) hx hb dL_isSo_19 (by decide) ?_
    have hPc := hP.part (cx := []) [] rfl
    have hDc := hD.part (cx := []) [] (by decide) rfl
    have hFc := va_freeP (cx := []) hD hS hA [] rfl
    refine va_calli (va_runV (As := [.int (zi j), .int (zi 2)]) (rest := []) ⟨hx, hb, hml, hown, hts⟩ (c_X7_ofMachine l dC dI cI cZ cM cT H.size hh ms gv tn tb κ2 j am aw av ax T kk ka kb 2 (by first | assumption | omega | rfl) hκ2 (by first | assumption | omega | rfl) hμ (by first | assumption | omega | rfl)) (cwV 2 hts (goodIn_of _ (by decide +kernel)) rfl rfl rfl (by decide +kernel) ⟨Nat.le_of_ble_eq_true rfl, Nat.le_of_ble_eq_true rfl⟩) ⟨fun a U g mk q => by obtain ⟨q0, q1, qP, qK, qD⟩ := q; exact ⟨q0, q1, qP, va_K.moved (u := U) (U := U.calling g mk a) (Vm.Alike.refl U.vm) qK, qD⟩, va_recv hK hPc (ci := 6) (q0 := 0) rfl rfl, fun U hU hW => ⟨rfl, by rw [hU], by rw [hU]; exact hPc, va_K.moved hW.alike hK, hDc.weaken (fun _ _ _ _ => trivial)⟩⟩ rfl rfl hl.1 rfl (lv_room (Nat.le_of_ble_eq_true rfl)) dL_isSo_20 ⟨Nat.le_of_ble_eq_true rfl, Nat.le_of_ble_eq_true rfl⟩) hS (fun q _ h => hFc q h) hFc (fun r_39 u t H1 locs ht hvm hw hB hz1 hk1 hS => ?_)
    obtain ⟨κ1_40, hz_41, hP1, hK1, hD1⟩ := hB
    rw [ht] at hP1
    obtain ⟨hP, hD⟩ := va_joinP (wr := [(q_1, .inl (cI, 5, .inl (zf g)))]) (rx := []) (pl1 := (pq_WD cI cZ cM cT hh ms gv tn tb κ1_40)) hP hD [] [0] rfl rfl (by decide) (by decide) hk1 hFc hP1 hD1
    generalize H1 = H at hP hS ⊢
    have hP : va_P (dC, dI) vwCl ([(q_1, .inl (cI, 5, .inl (zf g)))] ++ (pq_WD cI cZ cM cT hh ms gv tn tb κ1_40)) H := hP
    have hD : va_D A ([(q_1, .inl (cI, 5, .inl (zf g)))] ++ (pq_WD cI cZ cM cT hh ms gv tn tb κ1_40)) := hD
    refine W.widen (k := 1) (n := 5) (Nat.le_of_ble_eq_true rfl) (Nat.le_of_ble_eq_true rfl) ?_
    obtain rfl : r_39 = zi (pq_om T kk ka kb (2 : Int)) := hw
    refine pz_top (y := zi kk) (congrArg zi (rfl)) ?_
    refine lv_istore (lv' := [(4, .int (zi kk)), (0, .ref hh), (1, .ref q_1), (2, .int (zi e9)), (3, .int (zi j))]) hx hb dL_isSo_23 hl (by decide) rfl (fun ls hl => ?_)
    refine lv_aload_n hx hb dL_isSo_25 rfl (lv_at hl 1 rfl) ?_
    refine lv_iload_n hx hb dL_isSo_26 rfl (lv_at hl 4 rfl) ?_
    refine lv_iconst (v := zi 0) hx hb dL_isSo_27 (by decide) ?_
    have hPc := hP.part (cx := []) [] rfl
    have hDc := hD.part (cx := []) [] (by decide) rfl
    have hFc := va_freeP (cx := []) hD hS hA [] rfl
    refine va_calli (va_runV (As := [.int (zi j), .int (zi 0)]) (rest := []) ⟨hx, hb, hml, hown, hts⟩ (c_X7_ofMachine l dC dI cI cZ cM cT H.size hh ms gv tn tb κ1_40 j am aw av ax T kk ka kb 0 (by first | assumption | omega | rfl) hz_41 (by first | assumption | omega | rfl) hμ (by first | assumption | omega | rfl)) (cwV 2 hts (goodIn_of _ (by decide +kernel)) rfl rfl rfl (by decide +kernel) ⟨Nat.le_of_ble_eq_true rfl, Nat.le_of_ble_eq_true rfl⟩) ⟨fun a U g mk q => by obtain ⟨q0, q1, qP, qK, qD⟩ := q; exact ⟨q0, q1, qP, va_K.moved (u := U) (U := U.calling g mk a) (Vm.Alike.refl U.vm) qK, qD⟩, va_recv hK hPc (ci := 6) (q0 := 0) rfl rfl, fun U hU hW => ⟨rfl, by rw [hU], by rw [hU]; exact hPc, va_K.moved hW.alike hK, hDc.weaken (fun _ _ _ _ => trivial)⟩⟩ rfl rfl hl.1 rfl (lv_room (Nat.le_of_ble_eq_true rfl)) dL_isSo_28 ⟨Nat.le_of_ble_eq_true rfl, Nat.le_of_ble_eq_true rfl⟩) hS (fun q _ h => hFc q h) hFc (fun r_42 u t H1 locs ht hvm hw hB hz1 hk1 hS => ?_)
    obtain ⟨κ1_43, hz_44, hP1, hK1, hD1⟩ := hB
    rw [ht] at hP1
    obtain ⟨hP, hD⟩ := va_joinP (wr := [(q_1, .inl (cI, 5, .inl (zf g)))]) (rx := []) (pl1 := (pq_WD cI cZ cM cT hh ms gv tn tb κ1_43)) hP hD [] [0] rfl rfl (by decide) (by decide) hk1 hFc hP1 hD1
    generalize H1 = H at hP hS ⊢
    have hP : va_P (dC, dI) vwCl ([(q_1, .inl (cI, 5, .inl (zf g)))] ++ (pq_WD cI cZ cM cT hh ms gv tn tb κ1_43)) H := hP
    have hD : va_D A ([(q_1, .inl (cI, 5, .inl (zf g)))] ++ (pq_WD cI cZ cM cT hh ms gv tn tb κ1_43)) := hD
    refine W.widen (k := 1) (n := 5) (Nat.le_of_ble_eq_true rfl) (Nat.le_of_ble_eq_true rfl) ?_
    obtain rfl : r_42 = zi (pq_om T kk ka kb (0 : Int)) := hw
    refine pz_top (y := zi (pq_n T)) (congrArg zi (rfl)) ?_
    refine lv_istore (lv' := [(5, .int (zi (pq_n T))), (4, .int (zi kk)), (0, .ref hh), (1, .ref q_1), (2, .int (zi e9)), (3, .int (zi j))]) hx hb dL_isSo_31 hl (by decide) rfl (fun ls hl => ?_)
    refine lv_iconst (v := zi 0) hx hb dL_isSo_33 (by decide) ?_
    refine lv_istore (lv' := [(6, .int (zi 0)), (5, .int (zi (pq_n T))), (4, .int (zi kk)), (0, .ref hh), (1, .ref q_1), (2, .int (zi e9)), (3, .int (zi j))]) hx hb dL_isSo_34 hl (by decide) rfl (fun ls hl => ?_)
    refine lv_iconst (v := zi 0) hx hb dL_isSo_36 (by decide) ?_
    refine lv_istore (lv' := [(7, .int (zi 0)), (6, .int (zi 0)), (5, .int (zi (pq_n T))), (4, .int (zi kk)), (0, .ref hh), (1, .ref q_1), (2, .int (zi e9)), (3, .int (zi j))]) hx hb dL_isSo_37 hl (by decide) rfl (fun ls hl => ?_)
    refine pz_loop (fun n9 H locs ls => ∃ (q : Int) (j2 : Int) (κ4 : pq_S) , n9 = (2 * pq_n T - j2).toNat ∧ (0 ≤ j2 ∧ j2 ≤ 2 * pq_n T) ∧ (q = pq_ce T j2.toNat) ∧ (pq_Sok κ4) ∧ va_P (dC, dI) vwCl ([(q_1, .inl (cI, 5, .inl (zf g)))] ++ (pq_WD cI cZ cM cT hh ms gv tn tb κ4)) H ∧ va_D A ([(q_1, .inl (cI, 5, .inl (zf g)))] ++ (pq_WD cI cZ cM cT hh ms gv tn tb κ4)) ∧ va_S A s.heap H locs ∧ lv_has ls 9 [(5, .int (zi (pq_n T))), (4, .int (zi kk)), (0, .ref hh), (1, .ref q_1), (2, .int (zi e9)), (3, .int (zi j)), (6, .int (zi q)), (7, .int (zi j2))]) (fun n_39 H locs ls hI ih_39 => ?_) _ ⟨0, 0, κ1_43, rfl, (by first | assumption | omega | rfl), rfl, hz_44, hP, hD, hS, lv_sub hl [2, 3, 4, 5, 6, 7, 1, 0] rfl⟩
    obtain ⟨q, j2, κ4, hn_39, hj2, hq, hκ4, hP, hD, hS, hl⟩ := hI
    refine lv_iload hx hb dL_isSo_39 (lv_at hl 7 rfl) ?_
    refine lv_iconst (v := zi 2) hx hb dL_isSo_41 (by decide) ?_
    refine lv_iload hx hb dL_isSo_42 (lv_at hl 0 rfl) ?_
    refine pz_imul hx hb dL_isSo_44 ?_
    refine pz_icmp_ge (tgt := 81) hx hb (by omega) dL_isSo_45 (by decide) (fun c_45 => ?_) (fun c_45 => ?_)
    · have hq2 : q = pq_ce T (2 * pq_n T).toNat := by rw [hq, show j2 = 2 * pq_n T by omega]
      refine lv_aload_n hx hb dL_isSo_81 rfl (lv_at hl 2 rfl) ?_
      refine lv_iload_n hx hb dL_isSo_82 rfl (lv_at hl 5 rfl) ?_
      refine lv_bipush (v := zi 7) hx hb dL_isSo_83 (by decide) ?_
      have hPc := hP.part (cx := []) [] rfl
      have hDc := hD.part (cx := []) [] (by decide) rfl
      have hFc := va_freeP (cx := []) hD hS hA [] rfl
      refine va_calli (va_runV (As := [.int (zi j), .int (zi 7)]) (rest := []) ⟨hx, hb, hml, hown, hts⟩ (c_X7_ofMachine l dC dI cI cZ cM cT H.size hh ms gv tn tb κ4 j am aw av ax T kk ka kb 7 (by first | assumption | omega | rfl) hκ4 (by first | assumption | omega | rfl) hμ (by first | assumption | omega | rfl)) (cwV 2 hts (goodIn_of _ (by decide +kernel)) rfl rfl rfl (by decide +kernel) ⟨Nat.le_of_ble_eq_true rfl, Nat.le_of_ble_eq_true rfl⟩) ⟨fun a U g mk q => by obtain ⟨q0, q1, qP, qK, qD⟩ := q; exact ⟨q0, q1, qP, va_K.moved (u := U) (U := U.calling g mk a) (Vm.Alike.refl U.vm) qK, qD⟩, va_recv hK hPc (ci := 6) (q0 := 0) rfl rfl, fun U hU hW => ⟨rfl, by rw [hU], by rw [hU]; exact hPc, va_K.moved hW.alike hK, hDc.weaken (fun _ _ _ _ => trivial)⟩⟩ rfl rfl hl.1 rfl (lv_room (Nat.le_of_ble_eq_true rfl)) dL_isSo_85 ⟨Nat.le_of_ble_eq_true rfl, Nat.le_of_ble_eq_true rfl⟩) hS (fun q _ h => hFc q h) hFc (fun r_46 u t H1 locs ht hvm hw hB hz1 hk1 hS => ?_)
      obtain ⟨κ1_47, hz_48, hP1, hK1, hD1⟩ := hB
      rw [ht] at hP1
      obtain ⟨hP, hD⟩ := va_joinP (wr := [(q_1, .inl (cI, 5, .inl (zf g)))]) (rx := []) (pl1 := (pq_WD cI cZ cM cT hh ms gv tn tb κ1_47)) hP hD [] [0] rfl rfl (by decide) (by decide) hk1 hFc hP1 hD1
      generalize H1 = H at hP hS ⊢
      have hP : va_P (dC, dI) vwCl ([(q_1, .inl (cI, 5, .inl (zf g)))] ++ (pq_WD cI cZ cM cT hh ms gv tn tb κ1_47)) H := hP
      have hD : va_D A ([(q_1, .inl (cI, 5, .inl (zf g)))] ++ (pq_WD cI cZ cM cT hh ms gv tn tb κ1_47)) := hD
      refine W.widen (k := 1) (n := 5) (Nat.le_of_ble_eq_true rfl) (Nat.le_of_ble_eq_true rfl) ?_
      obtain rfl : r_46 = zi (pq_om T kk ka kb (7 : Int)) := hw
      refine pz_top (y := zi (pq_as T 7)) (congrArg zi (rfl)) ?_
      refine pz_if_lt (tgt := 95) hx hb (by omega) dL_isSo_88 (by decide) (fun c_49 => ?_) (fun c_49 => ?_)
      · refine lv_iconst (v := zi 0) hx hb dL_isSo_95 (by decide) ?_
        refine lv_istore (lv' := [(7, .int (zi 0)), (5, .int (zi (pq_n T))), (4, .int (zi kk)), (0, .ref hh), (1, .ref q_1), (2, .int (zi e9)), (3, .int (zi j)), (6, .int (zi q))]) hx hb dL_isSo_96 hl (by decide) rfl (fun ls hl => ?_)
        refine lv_aload_n hx hb dL_isSo_98 rfl (lv_at hl 3 rfl) ?_
        refine lv_iload_n hx hb dL_isSo_99 rfl (lv_at hl 6 rfl) ?_
        refine lv_iconst (v := zi 5) hx hb dL_isSo_100 (by decide) ?_
        have hPc := hP.part (cx := []) [] rfl
        have hDc := hD.part (cx := []) [] (by decide) rfl
        have hFc := va_freeP (cx := []) hD hS hA [] rfl
        refine va_calli (va_runV (As := [.int (zi j), .int (zi 5)]) (rest := []) ⟨hx, hb, hml, hown, hts⟩ (c_X7_ofMachine l dC dI cI cZ cM cT H.size hh ms gv tn tb κ1_47 j am aw av ax T kk ka kb 5 (by first | assumption | omega | rfl) hz_48 (by first | assumption | omega | rfl) hμ (by first | assumption | omega | rfl)) (cwV 2 hts (goodIn_of _ (by decide +kernel)) rfl rfl rfl (by decide +kernel) ⟨Nat.le_of_ble_eq_true rfl, Nat.le_of_ble_eq_true rfl⟩) ⟨fun a U g mk q => by obtain ⟨q0, q1, qP, qK, qD⟩ := q; exact ⟨q0, q1, qP, va_K.moved (u := U) (U := U.calling g mk a) (Vm.Alike.refl U.vm) qK, qD⟩, va_recv hK hPc (ci := 6) (q0 := 0) rfl rfl, fun U hU hW => ⟨rfl, by rw [hU], by rw [hU]; exact hPc, va_K.moved hW.alike hK, hDc.weaken (fun _ _ _ _ => trivial)⟩⟩ rfl rfl hl.1 rfl (lv_room (Nat.le_of_ble_eq_true rfl)) dL_isSo_101 ⟨Nat.le_of_ble_eq_true rfl, Nat.le_of_ble_eq_true rfl⟩) hS (fun q _ h => hFc q h) hFc (fun r_50 u t H1 locs ht hvm hw hB hz1 hk1 hS => ?_)
        obtain ⟨κ1_51, hz_52, hP1, hK1, hD1⟩ := hB
        rw [ht] at hP1
        obtain ⟨hP, hD⟩ := va_joinP (wr := [(q_1, .inl (cI, 5, .inl (zf g)))]) (rx := []) (pl1 := (pq_WD cI cZ cM cT hh ms gv tn tb κ1_51)) hP hD [] [0] rfl rfl (by decide) (by decide) hk1 hFc hP1 hD1
        generalize H1 = H at hP hS ⊢
        have hP : va_P (dC, dI) vwCl ([(q_1, .inl (cI, 5, .inl (zf g)))] ++ (pq_WD cI cZ cM cT hh ms gv tn tb κ1_51)) H := hP
        have hD : va_D A ([(q_1, .inl (cI, 5, .inl (zf g)))] ++ (pq_WD cI cZ cM cT hh ms gv tn tb κ1_51)) := hD
        refine W.widen (k := 1) (n := 5) (Nat.le_of_ble_eq_true rfl) (Nat.le_of_ble_eq_true rfl) ?_
        obtain rfl : r_50 = zi (pq_om T kk ka kb (5 : Int)) := hw
        refine pz_top (y := zi (pq_ways T)) (congrArg zi (rfl)) ?_
        refine lv_istore (lv' := [(8, .int (zi (pq_ways T))), (7, .int (zi 0)), (5, .int (zi (pq_n T))), (4, .int (zi kk)), (0, .ref hh), (1, .ref q_1), (2, .int (zi e9)), (3, .int (zi j)), (6, .int (zi q))]) hx hb dL_isSo_104 hl (by decide) rfl (fun ls hl => ?_)
        refine lv_aload_n hx hb dL_isSo_106 rfl (lv_at hl 5 rfl) ?_
        refine lv_iload hx hb dL_isSo_107 (lv_at hl 3 rfl) ?_
        refine lv_iconst (v := zi 1) hx hb dL_isSo_109 (by decide) ?_
        refine pz_iadd hx hb dL_isSo_110 ?_
        refine lv_dup2_11 hx hb dL_isSo_111 rfl rfl ?_
        refine pz_iald hx hb hK hP 0 0 rfl rfl (i := kk + 1) (by omega) dL_isSo_112 ?_
        refine lv_iconst (v := zi 1) hx hb dL_isSo_113 (by decide) ?_
        refine pz_iadd hx hb dL_isSo_114 ?_
        refine pz_iast hx hb hK hP hD hS 0 0 rfl rfl (i := kk + 1) (x := (g (kk + 1).toNat) + 1) (by omega) dL_isSo_115 (fun H locs hP hD hS => ?_)
        have hP : va_P (dC, dI) vwCl ([(q_1, .inl (cI, 5, .inl (zf (pz_u g (kk + 1).toNat ((g (kk + 1).toNat) + 1)))))] ++ (pq_WD cI cZ cM cT hh ms gv tn tb κ1_51)) H := hP
        have hD : va_D A ([(q_1, .inl (cI, 5, .inl (zf (pz_u g (kk + 1).toNat ((g (kk + 1).toNat) + 1)))))] ++ (pq_WD cI cZ cM cT hh ms gv tn tb κ1_51)) := hD
        refine lv_iload_n hx hb dL_isSo_116 rfl (lv_at hl 6 rfl) ?_
        refine lv_iload hx hb dL_isSo_117 (lv_at hl 8 rfl) ?_
        refine pz_iadd hx hb dL_isSo_119 ?_
        refine lv_istore_n (lv' := [(2, .int (zi (e9 + q))), (8, .int (zi (pq_ways T))), (7, .int (zi 0)), (5, .int (zi (pq_n T))), (4, .int (zi kk)), (0, .ref hh), (1, .ref q_1), (3, .int (zi j)), (6, .int (zi q))]) hx hb dL_isSo_120 rfl hl (by decide) rfl (fun ls hl => ?_)
        refine lv_aload_n hx hb dL_isSo_121 rfl (lv_at hl 5 rfl) ?_
        refine lv_iload_n hx hb dL_isSo_122 rfl (lv_at hl 7 rfl) ?_
        refine lv_iconst (v := zi 1) hx hb dL_isSo_123 (by decide) ?_
        have hPc := hP.part (cx := []) [] rfl
        have hDc := hD.part (cx := []) [] (by decide) rfl
        have hFc := va_freeP (cx := []) hD hS hA [] rfl
        refine va_calli (va_runV (As := [.int (zi j), .int (zi 1)]) (rest := []) ⟨hx, hb, hml, hown, hts⟩ (c_X7_ofMachine l dC dI cI cZ cM cT H.size hh ms gv tn tb κ1_51 j am aw av ax T kk ka kb 1 (by first | assumption | omega | rfl) hz_52 (by first | assumption | omega | rfl) hμ (by first | assumption | omega | rfl)) (cwV 2 hts (goodIn_of _ (by decide +kernel)) rfl rfl rfl (by decide +kernel) ⟨Nat.le_of_ble_eq_true rfl, Nat.le_of_ble_eq_true rfl⟩) ⟨fun a U g mk q => by obtain ⟨q0, q1, qP, qK, qD⟩ := q; exact ⟨q0, q1, qP, va_K.moved (u := U) (U := U.calling g mk a) (Vm.Alike.refl U.vm) qK, qD⟩, va_recv hK hPc (ci := 6) (q0 := 0) rfl rfl, fun U hU hW => ⟨rfl, by rw [hU], by rw [hU]; exact hPc, va_K.moved hW.alike hK, hDc.weaken (fun _ _ _ _ => trivial)⟩⟩ rfl rfl hl.1 rfl (lv_room (Nat.le_of_ble_eq_true rfl)) dL_isSo_124 ⟨Nat.le_of_ble_eq_true rfl, Nat.le_of_ble_eq_true rfl⟩) hS (fun q _ h => hFc q h) hFc (fun r_53 u t H1 locs ht hvm hw hB hz1 hk1 hS => ?_)
        obtain ⟨κ1_54, hz_55, hP1, hK1, hD1⟩ := hB
        rw [ht] at hP1
        obtain ⟨hP, hD⟩ := va_joinP (wr := [(q_1, .inl (cI, 5, .inl (zf (pz_u g (kk + 1).toNat ((g (kk + 1).toNat) + 1)))))]) (rx := []) (pl1 := (pq_WD cI cZ cM cT hh ms gv tn tb κ1_54)) hP hD [] [0] rfl rfl (by decide) (by decide) hk1 hFc hP1 hD1
        generalize H1 = H at hP hS ⊢
        have hP : va_P (dC, dI) vwCl ([(q_1, .inl (cI, 5, .inl (zf (pz_u g (kk + 1).toNat ((g (kk + 1).toNat) + 1)))))] ++ (pq_WD cI cZ cM cT hh ms gv tn tb κ1_54)) H := hP
        have hD : va_D A ([(q_1, .inl (cI, 5, .inl (zf (pz_u g (kk + 1).toNat ((g (kk + 1).toNat) + 1)))))] ++ (pq_WD cI cZ cM cT hh ms gv tn tb κ1_54)) := hD
        refine W.widen (k := 1) (n := 5) (Nat.le_of_ble_eq_true rfl) (Nat.le_of_ble_eq_true rfl) ?_
        obtain rfl : r_53 = zi (pq_om T kk ka kb (1 : Int)) := hw
        refine pz_top (y := zi (pq_ce T (2 * pq_n T).toNat)) (congrArg zi (rfl)) ?_
        refine lv_iload hx hb dL_isSo_127 (lv_at hl 8 rfl) ?_
        refine pz_icmp_ne (tgt := 173) hx hb (by omega) dL_isSo_129 (by decide) (fun c_56 => ?_) (fun c_56 => ?_)
        · exact (show False by omega).elim
        · refine lv_iload hx hb dL_isSo_132 (lv_at hl 1 rfl) ?_
          refine pz_if_eq (tgt := 175) hx hb (by omega) dL_isSo_134 (by decide) (fun c_57 => ?_) (fun c_57 => ?_)
          · refine lv_iload hx hb dL_isSo_175 (lv_at hl 4 rfl) ?_
            refine pz_if_lt (tgt := 195) hx hb (by omega) dL_isSo_177 (by decide) (fun c_58 => ?_) (fun c_58 => ?_)
            · refine lv_iload hx hb dL_isSo_195 (lv_at hl 4 rfl) ?_
              refine pz_if_lt (tgt := 205) hx hb (by omega) dL_isSo_197 (by decide) (fun c_59 => ?_) (fun c_59 => ?_)
              · refine lv_iload hx hb dL_isSo_205 (lv_at hl 4 rfl) ?_
                refine pz_if_ge (tgt := 214) hx hb (by omega) dL_isSo_207 (by decide) (fun c_60 => ?_) (fun c_60 => ?_)
                · refine lv_iconst (v := zi 0) hx hb dL_isSo_214 (by decide) ?_
                  refine lv_aload_n hx hb dL_isSo_215 rfl (lv_at hl 5 rfl) ?_
                  refine lv_iload_n hx hb dL_isSo_216 rfl (lv_at hl 7 rfl) ?_
                  refine lv_iconst (v := zi 3) hx hb dL_isSo_217 (by decide) ?_
                  have hPc := hP.part (cx := []) [] rfl
                  have hDc := hD.part (cx := []) [] (by decide) rfl
                  have hFc := va_freeP (cx := []) hD hS hA [] rfl
                  refine va_calli (va_runV (As := [.int (zi j), .int (zi 3)]) (rest := [.int (zi 0)]) ⟨hx, hb, hml, hown, hts⟩ (c_X7_ofMachine l dC dI cI cZ cM cT H.size hh ms gv tn tb κ1_54 j am aw av ax T kk ka kb 3 (by first | assumption | omega | rfl) hz_55 (by first | assumption | omega | rfl) hμ (by first | assumption | omega | rfl)) (cwV 2 hts (goodIn_of _ (by decide +kernel)) rfl rfl rfl (by decide +kernel) ⟨Nat.le_of_ble_eq_true rfl, Nat.le_of_ble_eq_true rfl⟩) ⟨fun a U g mk q => by obtain ⟨q0, q1, qP, qK, qD⟩ := q; exact ⟨q0, q1, qP, va_K.moved (u := U) (U := U.calling g mk a) (Vm.Alike.refl U.vm) qK, qD⟩, va_recv hK hPc (ci := 6) (q0 := 0) rfl rfl, fun U hU hW => ⟨rfl, by rw [hU], by rw [hU]; exact hPc, va_K.moved hW.alike hK, hDc.weaken (fun _ _ _ _ => trivial)⟩⟩ rfl rfl hl.1 rfl (lv_room (Nat.le_of_ble_eq_true rfl)) dL_isSo_218 ⟨Nat.le_of_ble_eq_true rfl, Nat.le_of_ble_eq_true rfl⟩) hS (fun q _ h => hFc q h) hFc (fun r_61 u t H1 locs ht hvm hw hB hz1 hk1 hS => ?_)
                  obtain ⟨κ1_62, hz_63, hP1, hK1, hD1⟩ := hB
                  rw [ht] at hP1
                  obtain ⟨hP, hD⟩ := va_joinP (wr := [(q_1, .inl (cI, 5, .inl (zf (pz_u g (kk + 1).toNat ((g (kk + 1).toNat) + 1)))))]) (rx := []) (pl1 := (pq_WD cI cZ cM cT hh ms gv tn tb κ1_62)) hP hD [] [0] rfl rfl (by decide) (by decide) hk1 hFc hP1 hD1
                  generalize H1 = H at hP hS ⊢
                  have hP : va_P (dC, dI) vwCl ([(q_1, .inl (cI, 5, .inl (zf (pz_u g (kk + 1).toNat ((g (kk + 1).toNat) + 1)))))] ++ (pq_WD cI cZ cM cT hh ms gv tn tb κ1_62)) H := hP
                  have hD : va_D A ([(q_1, .inl (cI, 5, .inl (zf (pz_u g (kk + 1).toNat ((g (kk + 1).toNat) + 1)))))] ++ (pq_WD cI cZ cM cT hh ms gv tn tb κ1_62)) := hD
                  refine W.widen (k := 1) (n := 5) (Nat.le_of_ble_eq_true rfl) (Nat.le_of_ble_eq_true rfl) ?_
                  obtain rfl : r_61 = zi (pq_om T kk ka kb (3 : Int)) := hw
                  refine pz_top (y := zi ka) (congrArg zi (rfl)) ?_
                  refine pz_if_ge (tgt := 228) hx hb (by omega) dL_isSo_221 (by decide) (fun c_64 => ?_) (fun c_64 => ?_)
                  · refine lv_iconst (v := zi 0) hx hb dL_isSo_228 (by decide) ?_
                    refine pz_icmp_ne (tgt := 254) hx hb (by omega) dL_isSo_229 (by decide) (fun c_65 => ?_) (fun c_65 => ?_)
                    · exact absurd c_65 (by omega)
                    · refine lv_iload hx hb dL_isSo_232 (lv_at hl 2 rfl) ?_
                      refine pz_if_eq (tgt := 256) hx hb (by omega) dL_isSo_234 (by decide) (fun c_66 => ?_) (fun c_66 => ?_)
                      · have hg2 := pq_kinds hj.1 hμ (show -1 ≤ kk ∧ kk ≤ 3 by omega) hg
                        have he2 : e9 + q = pq_cy (ms.take (j + 1).toNat) := by rw [pq_cy_1 hj.1 hμ, ← he, hq2]
                        refine pz_iinc (lv' := [(3, .int (zi (j + 1))), (2, .int (zi (e9 + q))), (8, .int (zi (pq_ways T))), (7, .int (zi 0)), (5, .int (zi (pq_n T))), (4, .int (zi kk)), (0, .ref hh), (1, .ref q_1), (6, .int (zi q))]) hx hb dL_isSo_256 hl (k := 7) rfl (by decide) rfl (fun ls hl => ?_)
                        refine lv_goto (tgt := 8) hx hb dL_isSo_259 (by decide) ?_
                        exact ih_8 _ _ _ _ ⟨pz_u g (kk + 1).toNat ((g (kk + 1).toNat) + 1), e9 + q, j + 1, κ1_62, rfl, (by first | assumption | omega | rfl), hg2, he2, hz_63, hP, hD, hS, lv_sub hl [6, 7, 1, 0] rfl⟩ (by omega)
                      · exact absurd c_66 (by omega)
                  · refine lv_iconst (v := zi 1) hx hb dL_isSo_224 (by decide) ?_
                    refine lv_goto (tgt := 229) hx hb dL_isSo_225 (by decide) ?_
                    refine pz_icmp_ne (tgt := 254) hx hb (by omega) dL_isSo_229 (by decide) (fun c_67 => ?_) (fun c_67 => ?_)
                    · exact (show False by omega).elim
                    · exact absurd c_67 (by omega)
                · refine lv_iconst (v := zi 1) hx hb dL_isSo_210 (by decide) ?_
                  refine lv_goto (tgt := 215) hx hb dL_isSo_211 (by decide) ?_
                  refine lv_aload_n hx hb dL_isSo_215 rfl (lv_at hl 5 rfl) ?_
                  refine lv_iload_n hx hb dL_isSo_216 rfl (lv_at hl 7 rfl) ?_
                  refine lv_iconst (v := zi 3) hx hb dL_isSo_217 (by decide) ?_
                  have hPc := hP.part (cx := []) [] rfl
                  have hDc := hD.part (cx := []) [] (by decide) rfl
                  have hFc := va_freeP (cx := []) hD hS hA [] rfl
                  refine va_calli (va_runV (As := [.int (zi j), .int (zi 3)]) (rest := [.int (zi 1)]) ⟨hx, hb, hml, hown, hts⟩ (c_X7_ofMachine l dC dI cI cZ cM cT H.size hh ms gv tn tb κ1_54 j am aw av ax T kk ka kb 3 (by first | assumption | omega | rfl) hz_55 (by first | assumption | omega | rfl) hμ (by first | assumption | omega | rfl)) (cwV 2 hts (goodIn_of _ (by decide +kernel)) rfl rfl rfl (by decide +kernel) ⟨Nat.le_of_ble_eq_true rfl, Nat.le_of_ble_eq_true rfl⟩) ⟨fun a U g mk q => by obtain ⟨q0, q1, qP, qK, qD⟩ := q; exact ⟨q0, q1, qP, va_K.moved (u := U) (U := U.calling g mk a) (Vm.Alike.refl U.vm) qK, qD⟩, va_recv hK hPc (ci := 6) (q0 := 0) rfl rfl, fun U hU hW => ⟨rfl, by rw [hU], by rw [hU]; exact hPc, va_K.moved hW.alike hK, hDc.weaken (fun _ _ _ _ => trivial)⟩⟩ rfl rfl hl.1 rfl (lv_room (Nat.le_of_ble_eq_true rfl)) dL_isSo_218 ⟨Nat.le_of_ble_eq_true rfl, Nat.le_of_ble_eq_true rfl⟩) hS (fun q _ h => hFc q h) hFc (fun r_68 u t H1 locs ht hvm hw hB hz1 hk1 hS => ?_)
                  obtain ⟨κ1_69, hz_70, hP1, hK1, hD1⟩ := hB
                  rw [ht] at hP1
                  obtain ⟨hP, hD⟩ := va_joinP (wr := [(q_1, .inl (cI, 5, .inl (zf (pz_u g (kk + 1).toNat ((g (kk + 1).toNat) + 1)))))]) (rx := []) (pl1 := (pq_WD cI cZ cM cT hh ms gv tn tb κ1_69)) hP hD [] [0] rfl rfl (by decide) (by decide) hk1 hFc hP1 hD1
                  generalize H1 = H at hP hS ⊢
                  have hP : va_P (dC, dI) vwCl ([(q_1, .inl (cI, 5, .inl (zf (pz_u g (kk + 1).toNat ((g (kk + 1).toNat) + 1)))))] ++ (pq_WD cI cZ cM cT hh ms gv tn tb κ1_69)) H := hP
                  have hD : va_D A ([(q_1, .inl (cI, 5, .inl (zf (pz_u g (kk + 1).toNat ((g (kk + 1).toNat) + 1)))))] ++ (pq_WD cI cZ cM cT hh ms gv tn tb κ1_69)) := hD
                  refine W.widen (k := 1) (n := 5) (Nat.le_of_ble_eq_true rfl) (Nat.le_of_ble_eq_true rfl) ?_
                  obtain rfl : r_68 = zi (pq_om T kk ka kb (3 : Int)) := hw
                  refine pz_top (y := zi ka) (congrArg zi (rfl)) ?_
                  refine pz_if_ge (tgt := 228) hx hb (by omega) dL_isSo_221 (by decide) (fun c_71 => ?_) (fun c_71 => ?_)
                  · refine lv_iconst (v := zi 0) hx hb dL_isSo_228 (by decide) ?_
                    refine pz_icmp_ne (tgt := 254) hx hb (by omega) dL_isSo_229 (by decide) (fun c_72 => ?_) (fun c_72 => ?_)
                    · exact (show False by omega).elim
                    · exact absurd c_72 (by omega)
                  · refine lv_iconst (v := zi 1) hx hb dL_isSo_224 (by decide) ?_
                    refine lv_goto (tgt := 229) hx hb dL_isSo_225 (by decide) ?_
                    refine pz_icmp_ne (tgt := 254) hx hb (by omega) dL_isSo_229 (by decide) (fun c_73 => ?_) (fun c_73 => ?_)
                    · exact absurd c_73 (by omega)
                    · refine lv_iload hx hb dL_isSo_232 (lv_at hl 2 rfl) ?_
                      refine pz_if_eq (tgt := 256) hx hb (by omega) dL_isSo_234 (by decide) (fun c_74 => ?_) (fun c_74 => ?_)
                      · have hg2 := pq_kinds hj.1 hμ (show -1 ≤ kk ∧ kk ≤ 3 by omega) hg
                        have he2 : e9 + q = pq_cy (ms.take (j + 1).toNat) := by rw [pq_cy_1 hj.1 hμ, ← he, hq2]
                        refine pz_iinc (lv' := [(3, .int (zi (j + 1))), (2, .int (zi (e9 + q))), (8, .int (zi (pq_ways T))), (7, .int (zi 0)), (5, .int (zi (pq_n T))), (4, .int (zi kk)), (0, .ref hh), (1, .ref q_1), (6, .int (zi q))]) hx hb dL_isSo_256 hl (k := 7) rfl (by decide) rfl (fun ls hl => ?_)
                        refine lv_goto (tgt := 8) hx hb dL_isSo_259 (by decide) ?_
                        exact ih_8 _ _ _ _ ⟨pz_u g (kk + 1).toNat ((g (kk + 1).toNat) + 1), e9 + q, j + 1, κ1_69, rfl, (by first | assumption | omega | rfl), hg2, he2, hz_70, hP, hD, hS, lv_sub hl [6, 7, 1, 0] rfl⟩ (by omega)
                      · exact absurd c_74 (by omega)
              · refine lv_iload hx hb dL_isSo_200 (lv_at hl 1 rfl) ?_
                refine pz_if_gt (tgt := 254) hx hb (by omega) dL_isSo_202 (by decide) (fun c_75 => ?_) (fun c_75 => ?_)
                · exact (show False by omega).elim
                · refine lv_iload hx hb dL_isSo_205 (lv_at hl 4 rfl) ?_
                  refine pz_if_ge (tgt := 214) hx hb (by omega) dL_isSo_207 (by decide) (fun c_76 => ?_) (fun c_76 => ?_)
                  · refine lv_iconst (v := zi 0) hx hb dL_isSo_214 (by decide) ?_
                    refine lv_aload_n hx hb dL_isSo_215 rfl (lv_at hl 5 rfl) ?_
                    refine lv_iload_n hx hb dL_isSo_216 rfl (lv_at hl 7 rfl) ?_
                    refine lv_iconst (v := zi 3) hx hb dL_isSo_217 (by decide) ?_
                    have hPc := hP.part (cx := []) [] rfl
                    have hDc := hD.part (cx := []) [] (by decide) rfl
                    have hFc := va_freeP (cx := []) hD hS hA [] rfl
                    refine va_calli (va_runV (As := [.int (zi j), .int (zi 3)]) (rest := [.int (zi 0)]) ⟨hx, hb, hml, hown, hts⟩ (c_X7_ofMachine l dC dI cI cZ cM cT H.size hh ms gv tn tb κ1_54 j am aw av ax T kk ka kb 3 (by first | assumption | omega | rfl) hz_55 (by first | assumption | omega | rfl) hμ (by first | assumption | omega | rfl)) (cwV 2 hts (goodIn_of _ (by decide +kernel)) rfl rfl rfl (by decide +kernel) ⟨Nat.le_of_ble_eq_true rfl, Nat.le_of_ble_eq_true rfl⟩) ⟨fun a U g mk q => by obtain ⟨q0, q1, qP, qK, qD⟩ := q; exact ⟨q0, q1, qP, va_K.moved (u := U) (U := U.calling g mk a) (Vm.Alike.refl U.vm) qK, qD⟩, va_recv hK hPc (ci := 6) (q0 := 0) rfl rfl, fun U hU hW => ⟨rfl, by rw [hU], by rw [hU]; exact hPc, va_K.moved hW.alike hK, hDc.weaken (fun _ _ _ _ => trivial)⟩⟩ rfl rfl hl.1 rfl (lv_room (Nat.le_of_ble_eq_true rfl)) dL_isSo_218 ⟨Nat.le_of_ble_eq_true rfl, Nat.le_of_ble_eq_true rfl⟩) hS (fun q _ h => hFc q h) hFc (fun r_77 u t H1 locs ht hvm hw hB hz1 hk1 hS => ?_)
                    obtain ⟨κ1_78, hz_79, hP1, hK1, hD1⟩ := hB
                    rw [ht] at hP1
                    obtain ⟨hP, hD⟩ := va_joinP (wr := [(q_1, .inl (cI, 5, .inl (zf (pz_u g (kk + 1).toNat ((g (kk + 1).toNat) + 1)))))]) (rx := []) (pl1 := (pq_WD cI cZ cM cT hh ms gv tn tb κ1_78)) hP hD [] [0] rfl rfl (by decide) (by decide) hk1 hFc hP1 hD1
                    generalize H1 = H at hP hS ⊢
                    have hP : va_P (dC, dI) vwCl ([(q_1, .inl (cI, 5, .inl (zf (pz_u g (kk + 1).toNat ((g (kk + 1).toNat) + 1)))))] ++ (pq_WD cI cZ cM cT hh ms gv tn tb κ1_78)) H := hP
                    have hD : va_D A ([(q_1, .inl (cI, 5, .inl (zf (pz_u g (kk + 1).toNat ((g (kk + 1).toNat) + 1)))))] ++ (pq_WD cI cZ cM cT hh ms gv tn tb κ1_78)) := hD
                    refine W.widen (k := 1) (n := 5) (Nat.le_of_ble_eq_true rfl) (Nat.le_of_ble_eq_true rfl) ?_
                    obtain rfl : r_77 = zi (pq_om T kk ka kb (3 : Int)) := hw
                    refine pz_top (y := zi ka) (congrArg zi (rfl)) ?_
                    refine pz_if_ge (tgt := 228) hx hb (by omega) dL_isSo_221 (by decide) (fun c_80 => ?_) (fun c_80 => ?_)
                    · refine lv_iconst (v := zi 0) hx hb dL_isSo_228 (by decide) ?_
                      refine pz_icmp_ne (tgt := 254) hx hb (by omega) dL_isSo_229 (by decide) (fun c_81 => ?_) (fun c_81 => ?_)
                      · exact absurd c_81 (by omega)
                      · refine lv_iload hx hb dL_isSo_232 (lv_at hl 2 rfl) ?_
                        refine pz_if_eq (tgt := 256) hx hb (by omega) dL_isSo_234 (by decide) (fun c_82 => ?_) (fun c_82 => ?_)
                        · have hg2 := pq_kinds hj.1 hμ (show -1 ≤ kk ∧ kk ≤ 3 by omega) hg
                          have he2 : e9 + q = pq_cy (ms.take (j + 1).toNat) := by rw [pq_cy_1 hj.1 hμ, ← he, hq2]
                          refine pz_iinc (lv' := [(3, .int (zi (j + 1))), (2, .int (zi (e9 + q))), (8, .int (zi (pq_ways T))), (7, .int (zi 0)), (5, .int (zi (pq_n T))), (4, .int (zi kk)), (0, .ref hh), (1, .ref q_1), (6, .int (zi q))]) hx hb dL_isSo_256 hl (k := 7) rfl (by decide) rfl (fun ls hl => ?_)
                          refine lv_goto (tgt := 8) hx hb dL_isSo_259 (by decide) ?_
                          exact ih_8 _ _ _ _ ⟨pz_u g (kk + 1).toNat ((g (kk + 1).toNat) + 1), e9 + q, j + 1, κ1_78, rfl, (by first | assumption | omega | rfl), hg2, he2, hz_79, hP, hD, hS, lv_sub hl [6, 7, 1, 0] rfl⟩ (by omega)
                        · exact absurd c_82 (by omega)
                    · refine lv_iconst (v := zi 1) hx hb dL_isSo_224 (by decide) ?_
                      refine lv_goto (tgt := 229) hx hb dL_isSo_225 (by decide) ?_
                      refine pz_icmp_ne (tgt := 254) hx hb (by omega) dL_isSo_229 (by decide) (fun c_83 => ?_) (fun c_83 => ?_)
                      · exact (show False by omega).elim
                      · exact absurd c_83 (by omega)
                  · refine lv_iconst (v := zi 1) hx hb dL_isSo_210 (by decide) ?_
                    refine lv_goto (tgt := 215) hx hb dL_isSo_211 (by decide) ?_
                    refine lv_aload_n hx hb dL_isSo_215 rfl (lv_at hl 5 rfl) ?_
                    refine lv_iload_n hx hb dL_isSo_216 rfl (lv_at hl 7 rfl) ?_
                    refine lv_iconst (v := zi 3) hx hb dL_isSo_217 (by decide) ?_
                    have hPc := hP.part (cx := []) [] rfl
                    have hDc := hD.part (cx := []) [] (by decide) rfl
                    have hFc := va_freeP (cx := []) hD hS hA [] rfl
                    refine va_calli (va_runV (As := [.int (zi j), .int (zi 3)]) (rest := [.int (zi 1)]) ⟨hx, hb, hml, hown, hts⟩ (c_X7_ofMachine l dC dI cI cZ cM cT H.size hh ms gv tn tb κ1_54 j am aw av ax T kk ka kb 3 (by first | assumption | omega | rfl) hz_55 (by first | assumption | omega | rfl) hμ (by first | assumption | omega | rfl)) (cwV 2 hts (goodIn_of _ (by decide +kernel)) rfl rfl rfl (by decide +kernel) ⟨Nat.le_of_ble_eq_true rfl, Nat.le_of_ble_eq_true rfl⟩) ⟨fun a U g mk q => by obtain ⟨q0, q1, qP, qK, qD⟩ := q; exact ⟨q0, q1, qP, va_K.moved (u := U) (U := U.calling g mk a) (Vm.Alike.refl U.vm) qK, qD⟩, va_recv hK hPc (ci := 6) (q0 := 0) rfl rfl, fun U hU hW => ⟨rfl, by rw [hU], by rw [hU]; exact hPc, va_K.moved hW.alike hK, hDc.weaken (fun _ _ _ _ => trivial)⟩⟩ rfl rfl hl.1 rfl (lv_room (Nat.le_of_ble_eq_true rfl)) dL_isSo_218 ⟨Nat.le_of_ble_eq_true rfl, Nat.le_of_ble_eq_true rfl⟩) hS (fun q _ h => hFc q h) hFc (fun r_84 u t H1 locs ht hvm hw hB hz1 hk1 hS => ?_)
                    obtain ⟨κ1_85, hz_86, hP1, hK1, hD1⟩ := hB
                    rw [ht] at hP1
                    obtain ⟨hP, hD⟩ := va_joinP (wr := [(q_1, .inl (cI, 5, .inl (zf (pz_u g (kk + 1).toNat ((g (kk + 1).toNat) + 1)))))]) (rx := []) (pl1 := (pq_WD cI cZ cM cT hh ms gv tn tb κ1_85)) hP hD [] [0] rfl rfl (by decide) (by decide) hk1 hFc hP1 hD1
                    generalize H1 = H at hP hS ⊢
                    have hP : va_P (dC, dI) vwCl ([(q_1, .inl (cI, 5, .inl (zf (pz_u g (kk + 1).toNat ((g (kk + 1).toNat) + 1)))))] ++ (pq_WD cI cZ cM cT hh ms gv tn tb κ1_85)) H := hP
                    have hD : va_D A ([(q_1, .inl (cI, 5, .inl (zf (pz_u g (kk + 1).toNat ((g (kk + 1).toNat) + 1)))))] ++ (pq_WD cI cZ cM cT hh ms gv tn tb κ1_85)) := hD
                    refine W.widen (k := 1) (n := 5) (Nat.le_of_ble_eq_true rfl) (Nat.le_of_ble_eq_true rfl) ?_
                    obtain rfl : r_84 = zi (pq_om T kk ka kb (3 : Int)) := hw
                    refine pz_top (y := zi ka) (congrArg zi (rfl)) ?_
                    refine pz_if_ge (tgt := 228) hx hb (by omega) dL_isSo_221 (by decide) (fun c_87 => ?_) (fun c_87 => ?_)
                    · refine lv_iconst (v := zi 0) hx hb dL_isSo_228 (by decide) ?_
                      refine pz_icmp_ne (tgt := 254) hx hb (by omega) dL_isSo_229 (by decide) (fun c_88 => ?_) (fun c_88 => ?_)
                      · exact (show False by omega).elim
                      · exact absurd c_88 (by omega)
                    · refine lv_iconst (v := zi 1) hx hb dL_isSo_224 (by decide) ?_
                      refine lv_goto (tgt := 229) hx hb dL_isSo_225 (by decide) ?_
                      refine pz_icmp_ne (tgt := 254) hx hb (by omega) dL_isSo_229 (by decide) (fun c_89 => ?_) (fun c_89 => ?_)
                      · exact absurd c_89 (by omega)
                      · refine lv_iload hx hb dL_isSo_232 (lv_at hl 2 rfl) ?_
                        refine pz_if_eq (tgt := 256) hx hb (by omega) dL_isSo_234 (by decide) (fun c_90 => ?_) (fun c_90 => ?_)
                        · have hg2 := pq_kinds hj.1 hμ (show -1 ≤ kk ∧ kk ≤ 3 by omega) hg
                          have he2 : e9 + q = pq_cy (ms.take (j + 1).toNat) := by rw [pq_cy_1 hj.1 hμ, ← he, hq2]
                          refine pz_iinc (lv' := [(3, .int (zi (j + 1))), (2, .int (zi (e9 + q))), (8, .int (zi (pq_ways T))), (7, .int (zi 0)), (5, .int (zi (pq_n T))), (4, .int (zi kk)), (0, .ref hh), (1, .ref q_1), (6, .int (zi q))]) hx hb dL_isSo_256 hl (k := 7) rfl (by decide) rfl (fun ls hl => ?_)
                          refine lv_goto (tgt := 8) hx hb dL_isSo_259 (by decide) ?_
                          exact ih_8 _ _ _ _ ⟨pz_u g (kk + 1).toNat ((g (kk + 1).toNat) + 1), e9 + q, j + 1, κ1_85, rfl, (by first | assumption | omega | rfl), hg2, he2, hz_86, hP, hD, hS, lv_sub hl [6, 7, 1, 0] rfl⟩ (by omega)
                        · exact absurd c_90 (by omega)
            · refine lv_iload hx hb dL_isSo_180 (lv_at hl 4 rfl) ?_
              refine pz_if_ne (tgt := 189) hx hb (by omega) dL_isSo_182 (by decide) (fun c_91 => ?_) (fun c_91 => ?_)
              · refine lv_iconst (v := zi 0) hx hb dL_isSo_189 (by decide) ?_
                refine lv_iload hx hb dL_isSo_190 (lv_at hl 2 rfl) ?_
                refine pz_icmp_ne (tgt := 254) hx hb (by omega) dL_isSo_192 (by decide) (fun c_92 => ?_) (fun c_92 => ?_)
                · exact absurd c_92 (by omega)
                · refine lv_iload hx hb dL_isSo_195 (lv_at hl 4 rfl) ?_
                  refine pz_if_lt (tgt := 205) hx hb (by omega) dL_isSo_197 (by decide) (fun c_93 => ?_) (fun c_93 => ?_)
                  · refine lv_iload hx hb dL_isSo_205 (lv_at hl 4 rfl) ?_
                    refine pz_if_ge (tgt := 214) hx hb (by omega) dL_isSo_207 (by decide) (fun c_94 => ?_) (fun c_94 => ?_)
                    · refine lv_iconst (v := zi 0) hx hb dL_isSo_214 (by decide) ?_
                      refine lv_aload_n hx hb dL_isSo_215 rfl (lv_at hl 5 rfl) ?_
                      refine lv_iload_n hx hb dL_isSo_216 rfl (lv_at hl 7 rfl) ?_
                      refine lv_iconst (v := zi 3) hx hb dL_isSo_217 (by decide) ?_
                      have hPc := hP.part (cx := []) [] rfl
                      have hDc := hD.part (cx := []) [] (by decide) rfl
                      have hFc := va_freeP (cx := []) hD hS hA [] rfl
                      refine va_calli (va_runV (As := [.int (zi j), .int (zi 3)]) (rest := [.int (zi 0)]) ⟨hx, hb, hml, hown, hts⟩ (c_X7_ofMachine l dC dI cI cZ cM cT H.size hh ms gv tn tb κ1_54 j am aw av ax T kk ka kb 3 (by first | assumption | omega | rfl) hz_55 (by first | assumption | omega | rfl) hμ (by first | assumption | omega | rfl)) (cwV 2 hts (goodIn_of _ (by decide +kernel)) rfl rfl rfl (by decide +kernel) ⟨Nat.le_of_ble_eq_true rfl, Nat.le_of_ble_eq_true rfl⟩) ⟨fun a U g mk q => by obtain ⟨q0, q1, qP, qK, qD⟩ := q; exact ⟨q0, q1, qP, va_K.moved (u := U) (U := U.calling g mk a) (Vm.Alike.refl U.vm) qK, qD⟩, va_recv hK hPc (ci := 6) (q0 := 0) rfl rfl, fun U hU hW => ⟨rfl, by rw [hU], by rw [hU]; exact hPc, va_K.moved hW.alike hK, hDc.weaken (fun _ _ _ _ => trivial)⟩⟩ rfl rfl hl.1 rfl (lv_room (Nat.le_of_ble_eq_true rfl)) dL_isSo_218 ⟨Nat.le_of_ble_eq_true rfl, Nat.le_of_ble_eq_true rfl⟩) hS (fun q _ h => hFc q h) hFc (fun r_95 u t H1 locs ht hvm hw hB hz1 hk1 hS => ?_)
                      obtain ⟨κ1_96, hz_97, hP1, hK1, hD1⟩ := hB
                      rw [ht] at hP1
                      obtain ⟨hP, hD⟩ := va_joinP (wr := [(q_1, .inl (cI, 5, .inl (zf (pz_u g (kk + 1).toNat ((g (kk + 1).toNat) + 1)))))]) (rx := []) (pl1 := (pq_WD cI cZ cM cT hh ms gv tn tb κ1_96)) hP hD [] [0] rfl rfl (by decide) (by decide) hk1 hFc hP1 hD1
                      generalize H1 = H at hP hS ⊢
                      have hP : va_P (dC, dI) vwCl ([(q_1, .inl (cI, 5, .inl (zf (pz_u g (kk + 1).toNat ((g (kk + 1).toNat) + 1)))))] ++ (pq_WD cI cZ cM cT hh ms gv tn tb κ1_96)) H := hP
                      have hD : va_D A ([(q_1, .inl (cI, 5, .inl (zf (pz_u g (kk + 1).toNat ((g (kk + 1).toNat) + 1)))))] ++ (pq_WD cI cZ cM cT hh ms gv tn tb κ1_96)) := hD
                      refine W.widen (k := 1) (n := 5) (Nat.le_of_ble_eq_true rfl) (Nat.le_of_ble_eq_true rfl) ?_
                      obtain rfl : r_95 = zi (pq_om T kk ka kb (3 : Int)) := hw
                      refine pz_top (y := zi ka) (congrArg zi (rfl)) ?_
                      refine pz_if_ge (tgt := 228) hx hb (by omega) dL_isSo_221 (by decide) (fun c_98 => ?_) (fun c_98 => ?_)
                      · refine lv_iconst (v := zi 0) hx hb dL_isSo_228 (by decide) ?_
                        refine pz_icmp_ne (tgt := 254) hx hb (by omega) dL_isSo_229 (by decide) (fun c_99 => ?_) (fun c_99 => ?_)
                        · exact absurd c_99 (by omega)
                        · refine lv_iload hx hb dL_isSo_232 (lv_at hl 2 rfl) ?_
                          refine pz_if_eq (tgt := 256) hx hb (by omega) dL_isSo_234 (by decide) (fun c_100 => ?_) (fun c_100 => ?_)
                          · have hg2 := pq_kinds hj.1 hμ (show -1 ≤ kk ∧ kk ≤ 3 by omega) hg
                            have he2 : e9 + q = pq_cy (ms.take (j + 1).toNat) := by rw [pq_cy_1 hj.1 hμ, ← he, hq2]
                            refine pz_iinc (lv' := [(3, .int (zi (j + 1))), (2, .int (zi (e9 + q))), (8, .int (zi (pq_ways T))), (7, .int (zi 0)), (5, .int (zi (pq_n T))), (4, .int (zi kk)), (0, .ref hh), (1, .ref q_1), (6, .int (zi q))]) hx hb dL_isSo_256 hl (k := 7) rfl (by decide) rfl (fun ls hl => ?_)
                            refine lv_goto (tgt := 8) hx hb dL_isSo_259 (by decide) ?_
                            exact ih_8 _ _ _ _ ⟨pz_u g (kk + 1).toNat ((g (kk + 1).toNat) + 1), e9 + q, j + 1, κ1_96, rfl, (by first | assumption | omega | rfl), hg2, he2, hz_97, hP, hD, hS, lv_sub hl [6, 7, 1, 0] rfl⟩ (by omega)
                          · exact absurd c_100 (by omega)
                      · refine lv_iconst (v := zi 1) hx hb dL_isSo_224 (by decide) ?_
                        refine lv_goto (tgt := 229) hx hb dL_isSo_225 (by decide) ?_
                        refine pz_icmp_ne (tgt := 254) hx hb (by omega) dL_isSo_229 (by decide) (fun c_101 => ?_) (fun c_101 => ?_)
                        · exact (show False by omega).elim
                        · exact absurd c_101 (by omega)
                    · refine lv_iconst (v := zi 1) hx hb dL_isSo_210 (by decide) ?_
                      refine lv_goto (tgt := 215) hx hb dL_isSo_211 (by decide) ?_
                      refine lv_aload_n hx hb dL_isSo_215 rfl (lv_at hl 5 rfl) ?_
                      refine lv_iload_n hx hb dL_isSo_216 rfl (lv_at hl 7 rfl) ?_
                      refine lv_iconst (v := zi 3) hx hb dL_isSo_217 (by decide) ?_
                      have hPc := hP.part (cx := []) [] rfl
                      have hDc := hD.part (cx := []) [] (by decide) rfl
                      have hFc := va_freeP (cx := []) hD hS hA [] rfl
                      refine va_calli (va_runV (As := [.int (zi j), .int (zi 3)]) (rest := [.int (zi 1)]) ⟨hx, hb, hml, hown, hts⟩ (c_X7_ofMachine l dC dI cI cZ cM cT H.size hh ms gv tn tb κ1_54 j am aw av ax T kk ka kb 3 (by first | assumption | omega | rfl) hz_55 (by first | assumption | omega | rfl) hμ (by first | assumption | omega | rfl)) (cwV 2 hts (goodIn_of _ (by decide +kernel)) rfl rfl rfl (by decide +kernel) ⟨Nat.le_of_ble_eq_true rfl, Nat.le_of_ble_eq_true rfl⟩) ⟨fun a U g mk q => by obtain ⟨q0, q1, qP, qK, qD⟩ := q; exact ⟨q0, q1, qP, va_K.moved (u := U) (U := U.calling g mk a) (Vm.Alike.refl U.vm) qK, qD⟩, va_recv hK hPc (ci := 6) (q0 := 0) rfl rfl, fun U hU hW => ⟨rfl, by rw [hU], by rw [hU]; exact hPc, va_K.moved hW.alike hK, hDc.weaken (fun _ _ _ _ => trivial)⟩⟩ rfl rfl hl.1 rfl (lv_room (Nat.le_of_ble_eq_true rfl)) dL_isSo_218 ⟨Nat.le_of_ble_eq_true rfl, Nat.le_of_ble_eq_true rfl⟩) hS (fun q _ h => hFc q h) hFc (fun r_102 u t H1 locs ht hvm hw hB hz1 hk1 hS => ?_)
                      obtain ⟨κ1_103, hz_104, hP1, hK1, hD1⟩ := hB
                      rw [ht] at hP1
                      obtain ⟨hP, hD⟩ := va_joinP (wr := [(q_1, .inl (cI, 5, .inl (zf (pz_u g (kk + 1).toNat ((g (kk + 1).toNat) + 1)))))]) (rx := []) (pl1 := (pq_WD cI cZ cM cT hh ms gv tn tb κ1_103)) hP hD [] [0] rfl rfl (by decide) (by decide) hk1 hFc hP1 hD1
                      generalize H1 = H at hP hS ⊢
                      have hP : va_P (dC, dI) vwCl ([(q_1, .inl (cI, 5, .inl (zf (pz_u g (kk + 1).toNat ((g (kk + 1).toNat) + 1)))))] ++ (pq_WD cI cZ cM cT hh ms gv tn tb κ1_103)) H := hP
                      have hD : va_D A ([(q_1, .inl (cI, 5, .inl (zf (pz_u g (kk + 1).toNat ((g (kk + 1).toNat) + 1)))))] ++ (pq_WD cI cZ cM cT hh ms gv tn tb κ1_103)) := hD
                      refine W.widen (k := 1) (n := 5) (Nat.le_of_ble_eq_true rfl) (Nat.le_of_ble_eq_true rfl) ?_
                      obtain rfl : r_102 = zi (pq_om T kk ka kb (3 : Int)) := hw
                      refine pz_top (y := zi ka) (congrArg zi (rfl)) ?_
                      refine pz_if_ge (tgt := 228) hx hb (by omega) dL_isSo_221 (by decide) (fun c_105 => ?_) (fun c_105 => ?_)
                      · refine lv_iconst (v := zi 0) hx hb dL_isSo_228 (by decide) ?_
                        refine pz_icmp_ne (tgt := 254) hx hb (by omega) dL_isSo_229 (by decide) (fun c_106 => ?_) (fun c_106 => ?_)
                        · exact (show False by omega).elim
                        · exact absurd c_106 (by omega)
                      · refine lv_iconst (v := zi 1) hx hb dL_isSo_224 (by decide) ?_
                        refine lv_goto (tgt := 229) hx hb dL_isSo_225 (by decide) ?_
                        refine pz_icmp_ne (tgt := 254) hx hb (by omega) dL_isSo_229 (by decide) (fun c_107 => ?_) (fun c_107 => ?_)
                        · exact absurd c_107 (by omega)
                        · refine lv_iload hx hb dL_isSo_232 (lv_at hl 2 rfl) ?_
                          refine pz_if_eq (tgt := 256) hx hb (by omega) dL_isSo_234 (by decide) (fun c_108 => ?_) (fun c_108 => ?_)
                          · have hg2 := pq_kinds hj.1 hμ (show -1 ≤ kk ∧ kk ≤ 3 by omega) hg
                            have he2 : e9 + q = pq_cy (ms.take (j + 1).toNat) := by rw [pq_cy_1 hj.1 hμ, ← he, hq2]
                            refine pz_iinc (lv' := [(3, .int (zi (j + 1))), (2, .int (zi (e9 + q))), (8, .int (zi (pq_ways T))), (7, .int (zi 0)), (5, .int (zi (pq_n T))), (4, .int (zi kk)), (0, .ref hh), (1, .ref q_1), (6, .int (zi q))]) hx hb dL_isSo_256 hl (k := 7) rfl (by decide) rfl (fun ls hl => ?_)
                            refine lv_goto (tgt := 8) hx hb dL_isSo_259 (by decide) ?_
                            exact ih_8 _ _ _ _ ⟨pz_u g (kk + 1).toNat ((g (kk + 1).toNat) + 1), e9 + q, j + 1, κ1_103, rfl, (by first | assumption | omega | rfl), hg2, he2, hz_104, hP, hD, hS, lv_sub hl [6, 7, 1, 0] rfl⟩ (by omega)
                          · exact absurd c_108 (by omega)
                  · refine lv_iload hx hb dL_isSo_200 (lv_at hl 1 rfl) ?_
                    refine pz_if_gt (tgt := 254) hx hb (by omega) dL_isSo_202 (by decide) (fun c_109 => ?_) (fun c_109 => ?_)
                    · exact (show False by omega).elim
                    · refine lv_iload hx hb dL_isSo_205 (lv_at hl 4 rfl) ?_
                      refine pz_if_ge (tgt := 214) hx hb (by omega) dL_isSo_207 (by decide) (fun c_110 => ?_) (fun c_110 => ?_)
                      · refine lv_iconst (v := zi 0) hx hb dL_isSo_214 (by decide) ?_
                        refine lv_aload_n hx hb dL_isSo_215 rfl (lv_at hl 5 rfl) ?_
                        refine lv_iload_n hx hb dL_isSo_216 rfl (lv_at hl 7 rfl) ?_
                        refine lv_iconst (v := zi 3) hx hb dL_isSo_217 (by decide) ?_
                        have hPc := hP.part (cx := []) [] rfl
                        have hDc := hD.part (cx := []) [] (by decide) rfl
                        have hFc := va_freeP (cx := []) hD hS hA [] rfl
                        refine va_calli (va_runV (As := [.int (zi j), .int (zi 3)]) (rest := [.int (zi 0)]) ⟨hx, hb, hml, hown, hts⟩ (c_X7_ofMachine l dC dI cI cZ cM cT H.size hh ms gv tn tb κ1_54 j am aw av ax T kk ka kb 3 (by first | assumption | omega | rfl) hz_55 (by first | assumption | omega | rfl) hμ (by first | assumption | omega | rfl)) (cwV 2 hts (goodIn_of _ (by decide +kernel)) rfl rfl rfl (by decide +kernel) ⟨Nat.le_of_ble_eq_true rfl, Nat.le_of_ble_eq_true rfl⟩) ⟨fun a U g mk q => by obtain ⟨q0, q1, qP, qK, qD⟩ := q; exact ⟨q0, q1, qP, va_K.moved (u := U) (U := U.calling g mk a) (Vm.Alike.refl U.vm) qK, qD⟩, va_recv hK hPc (ci := 6) (q0 := 0) rfl rfl, fun U hU hW => ⟨rfl, by rw [hU], by rw [hU]; exact hPc, va_K.moved hW.alike hK, hDc.weaken (fun _ _ _ _ => trivial)⟩⟩ rfl rfl hl.1 rfl (lv_room (Nat.le_of_ble_eq_true rfl)) dL_isSo_218 ⟨Nat.le_of_ble_eq_true rfl, Nat.le_of_ble_eq_true rfl⟩) hS (fun q _ h => hFc q h) hFc (fun r_111 u t H1 locs ht hvm hw hB hz1 hk1 hS => ?_)
                        obtain ⟨κ1_112, hz_113, hP1, hK1, hD1⟩ := hB
                        rw [ht] at hP1
                        obtain ⟨hP, hD⟩ := va_joinP (wr := [(q_1, .inl (cI, 5, .inl (zf (pz_u g (kk + 1).toNat ((g (kk + 1).toNat) + 1)))))]) (rx := []) (pl1 := (pq_WD cI cZ cM cT hh ms gv tn tb κ1_112)) hP hD [] [0] rfl rfl (by decide) (by decide) hk1 hFc hP1 hD1
                        generalize H1 = H at hP hS ⊢
                        have hP : va_P (dC, dI) vwCl ([(q_1, .inl (cI, 5, .inl (zf (pz_u g (kk + 1).toNat ((g (kk + 1).toNat) + 1)))))] ++ (pq_WD cI cZ cM cT hh ms gv tn tb κ1_112)) H := hP
                        have hD : va_D A ([(q_1, .inl (cI, 5, .inl (zf (pz_u g (kk + 1).toNat ((g (kk + 1).toNat) + 1)))))] ++ (pq_WD cI cZ cM cT hh ms gv tn tb κ1_112)) := hD
                        refine W.widen (k := 1) (n := 5) (Nat.le_of_ble_eq_true rfl) (Nat.le_of_ble_eq_true rfl) ?_
                        obtain rfl : r_111 = zi (pq_om T kk ka kb (3 : Int)) := hw
                        refine pz_top (y := zi ka) (congrArg zi (rfl)) ?_
                        refine pz_if_ge (tgt := 228) hx hb (by omega) dL_isSo_221 (by decide) (fun c_114 => ?_) (fun c_114 => ?_)
                        · refine lv_iconst (v := zi 0) hx hb dL_isSo_228 (by decide) ?_
                          refine pz_icmp_ne (tgt := 254) hx hb (by omega) dL_isSo_229 (by decide) (fun c_115 => ?_) (fun c_115 => ?_)
                          · exact absurd c_115 (by omega)
                          · refine lv_iload hx hb dL_isSo_232 (lv_at hl 2 rfl) ?_
                            refine pz_if_eq (tgt := 256) hx hb (by omega) dL_isSo_234 (by decide) (fun c_116 => ?_) (fun c_116 => ?_)
                            · have hg2 := pq_kinds hj.1 hμ (show -1 ≤ kk ∧ kk ≤ 3 by omega) hg
                              have he2 : e9 + q = pq_cy (ms.take (j + 1).toNat) := by rw [pq_cy_1 hj.1 hμ, ← he, hq2]
                              refine pz_iinc (lv' := [(3, .int (zi (j + 1))), (2, .int (zi (e9 + q))), (8, .int (zi (pq_ways T))), (7, .int (zi 0)), (5, .int (zi (pq_n T))), (4, .int (zi kk)), (0, .ref hh), (1, .ref q_1), (6, .int (zi q))]) hx hb dL_isSo_256 hl (k := 7) rfl (by decide) rfl (fun ls hl => ?_)
                              refine lv_goto (tgt := 8) hx hb dL_isSo_259 (by decide) ?_
                              exact ih_8 _ _ _ _ ⟨pz_u g (kk + 1).toNat ((g (kk + 1).toNat) + 1), e9 + q, j + 1, κ1_112, rfl, (by first | assumption | omega | rfl), hg2, he2, hz_113, hP, hD, hS, lv_sub hl [6, 7, 1, 0] rfl⟩ (by omega)
                            · exact absurd c_116 (by omega)
                        · refine lv_iconst (v := zi 1) hx hb dL_isSo_224 (by decide) ?_
                          refine lv_goto (tgt := 229) hx hb dL_isSo_225 (by decide) ?_
                          refine pz_icmp_ne (tgt := 254) hx hb (by omega) dL_isSo_229 (by decide) (fun c_117 => ?_) (fun c_117 => ?_)
                          · exact (show False by omega).elim
                          · exact absurd c_117 (by omega)
                      · refine lv_iconst (v := zi 1) hx hb dL_isSo_210 (by decide) ?_
                        refine lv_goto (tgt := 215) hx hb dL_isSo_211 (by decide) ?_
                        refine lv_aload_n hx hb dL_isSo_215 rfl (lv_at hl 5 rfl) ?_
                        refine lv_iload_n hx hb dL_isSo_216 rfl (lv_at hl 7 rfl) ?_
                        refine lv_iconst (v := zi 3) hx hb dL_isSo_217 (by decide) ?_
                        have hPc := hP.part (cx := []) [] rfl
                        have hDc := hD.part (cx := []) [] (by decide) rfl
                        have hFc := va_freeP (cx := []) hD hS hA [] rfl
                        refine va_calli (va_runV (As := [.int (zi j), .int (zi 3)]) (rest := [.int (zi 1)]) ⟨hx, hb, hml, hown, hts⟩ (c_X7_ofMachine l dC dI cI cZ cM cT H.size hh ms gv tn tb κ1_54 j am aw av ax T kk ka kb 3 (by first | assumption | omega | rfl) hz_55 (by first | assumption | omega | rfl) hμ (by first | assumption | omega | rfl)) (cwV 2 hts (goodIn_of _ (by decide +kernel)) rfl rfl rfl (by decide +kernel) ⟨Nat.le_of_ble_eq_true rfl, Nat.le_of_ble_eq_true rfl⟩) ⟨fun a U g mk q => by obtain ⟨q0, q1, qP, qK, qD⟩ := q; exact ⟨q0, q1, qP, va_K.moved (u := U) (U := U.calling g mk a) (Vm.Alike.refl U.vm) qK, qD⟩, va_recv hK hPc (ci := 6) (q0 := 0) rfl rfl, fun U hU hW => ⟨rfl, by rw [hU], by rw [hU]; exact hPc, va_K.moved hW.alike hK, hDc.weaken (fun _ _ _ _ => trivial)⟩⟩ rfl rfl hl.1 rfl (lv_room (Nat.le_of_ble_eq_true rfl)) dL_isSo_218 ⟨Nat.le_of_ble_eq_true rfl, Nat.le_of_ble_eq_true rfl⟩) hS (fun q _ h => hFc q h) hFc (fun r_118 u t H1 locs ht hvm hw hB hz1 hk1 hS => ?_)
                        obtain ⟨κ1_119, hz_120, hP1, hK1, hD1⟩ := hB
                        rw [ht] at hP1
                        obtain ⟨hP, hD⟩ := va_joinP (wr := [(q_1, .inl (cI, 5, .inl (zf (pz_u g (kk + 1).toNat ((g (kk + 1).toNat) + 1)))))]) (rx := []) (pl1 := (pq_WD cI cZ cM cT hh ms gv tn tb κ1_119)) hP hD [] [0] rfl rfl (by decide) (by decide) hk1 hFc hP1 hD1
                        generalize H1 = H at hP hS ⊢
                        have hP : va_P (dC, dI) vwCl ([(q_1, .inl (cI, 5, .inl (zf (pz_u g (kk + 1).toNat ((g (kk + 1).toNat) + 1)))))] ++ (pq_WD cI cZ cM cT hh ms gv tn tb κ1_119)) H := hP
                        have hD : va_D A ([(q_1, .inl (cI, 5, .inl (zf (pz_u g (kk + 1).toNat ((g (kk + 1).toNat) + 1)))))] ++ (pq_WD cI cZ cM cT hh ms gv tn tb κ1_119)) := hD
                        refine W.widen (k := 1) (n := 5) (Nat.le_of_ble_eq_true rfl) (Nat.le_of_ble_eq_true rfl) ?_
                        obtain rfl : r_118 = zi (pq_om T kk ka kb (3 : Int)) := hw
                        refine pz_top (y := zi ka) (congrArg zi (rfl)) ?_
                        refine pz_if_ge (tgt := 228) hx hb (by omega) dL_isSo_221 (by decide) (fun c_121 => ?_) (fun c_121 => ?_)
                        · refine lv_iconst (v := zi 0) hx hb dL_isSo_228 (by decide) ?_
                          refine pz_icmp_ne (tgt := 254) hx hb (by omega) dL_isSo_229 (by decide) (fun c_122 => ?_) (fun c_122 => ?_)
                          · exact (show False by omega).elim
                          · exact absurd c_122 (by omega)
                        · refine lv_iconst (v := zi 1) hx hb dL_isSo_224 (by decide) ?_
                          refine lv_goto (tgt := 229) hx hb dL_isSo_225 (by decide) ?_
                          refine pz_icmp_ne (tgt := 254) hx hb (by omega) dL_isSo_229 (by decide) (fun c_123 => ?_) (fun c_123 => ?_)
                          · exact absurd c_123 (by omega)
                          · refine lv_iload hx hb dL_isSo_232 (lv_at hl 2 rfl) ?_
                            refine pz_if_eq (tgt := 256) hx hb (by omega) dL_isSo_234 (by decide) (fun c_124 => ?_) (fun c_124 => ?_)
                            · have hg2 := pq_kinds hj.1 hμ (show -1 ≤ kk ∧ kk ≤ 3 by omega) hg
                              have he2 : e9 + q = pq_cy (ms.take (j + 1).toNat) := by rw [pq_cy_1 hj.1 hμ, ← he, hq2]
                              refine pz_iinc (lv' := [(3, .int (zi (j + 1))), (2, .int (zi (e9 + q))), (8, .int (zi (pq_ways T))), (7, .int (zi 0)), (5, .int (zi (pq_n T))), (4, .int (zi kk)), (0, .ref hh), (1, .ref q_1), (6, .int (zi q))]) hx hb dL_isSo_256 hl (k := 7) rfl (by decide) rfl (fun ls hl => ?_)
                              refine lv_goto (tgt := 8) hx hb dL_isSo_259 (by decide) ?_
                              exact ih_8 _ _ _ _ ⟨pz_u g (kk + 1).toNat ((g (kk + 1).toNat) + 1), e9 + q, j + 1, κ1_119, rfl, (by first | assumption | omega | rfl), hg2, he2, hz_120, hP, hD, hS, lv_sub hl [6, 7, 1, 0] rfl⟩ (by omega)
                            · exact absurd c_124 (by omega)
              · refine lv_iconst (v := zi 1) hx hb dL_isSo_185 (by decide) ?_
                refine lv_goto (tgt := 190) hx hb dL_isSo_186 (by decide) ?_
                refine lv_iload hx hb dL_isSo_190 (lv_at hl 2 rfl) ?_
                refine pz_icmp_ne (tgt := 254) hx hb (by omega) dL_isSo_192 (by decide) (fun c_125 => ?_) (fun c_125 => ?_)
                · exact (show False by omega).elim
                · exact absurd c_125 (by omega)
          · refine lv_iload hx hb dL_isSo_137 (lv_at hl 1 rfl) ?_
            refine lv_bipush (v := zi 9) hx hb dL_isSo_139 (by decide) ?_
            refine pz_icmp_lt (tgt := 173) hx hb (by omega) dL_isSo_141 (by decide) (fun c_126 => ?_) (fun c_126 => ?_)
            · exact (show False by omega).elim
            · refine lv_iload hx hb dL_isSo_144 (lv_at hl 1 rfl) ?_
              refine lv_iconst (v := zi 1) hx hb dL_isSo_146 (by decide) ?_
              refine lv_iconst (v := zi 4) hx hb dL_isSo_147 (by decide) ?_
              refine lv_iload hx hb dL_isSo_148 (lv_at hl 3 rfl) ?_
              refine pz_imul hx hb dL_isSo_150 ?_
              refine pz_iadd hx hb dL_isSo_151 ?_
              refine pz_icmp_gt (tgt := 173) hx hb (by omega) dL_isSo_152 (by decide) (fun c_127 => ?_) (fun c_127 => ?_)
              · exact (show False by omega).elim
              · refine lv_iload hx hb dL_isSo_155 (lv_at hl 1 rfl) ?_
                refine lv_iconst (v := zi 4) hx hb dL_isSo_157 (by decide) ?_
                refine pz_irem hx hb (by omega) dL_isSo_158 ?_
                refine lv_iconst (v := zi 1) hx hb dL_isSo_159 (by decide) ?_
                refine pz_icmp_ne (tgt := 173) hx hb (by omega) dL_isSo_160 (by decide) (fun c_128 => ?_) (fun c_128 => ?_)
                · exact (show False by omega).elim
                · refine lv_iload hx hb dL_isSo_163 (lv_at hl 8 rfl) ?_
                  refine pz_if_eq (tgt := 173) hx hb (by omega) dL_isSo_165 (by decide) (fun c_129 => ?_) (fun c_129 => ?_)
                  · exact (show False by omega).elim
                  · refine lv_iload hx hb dL_isSo_168 (lv_at hl 2 rfl) ?_
                    refine pz_if_eq (tgt := 175) hx hb (by omega) dL_isSo_170 (by decide) (fun c_130 => ?_) (fun c_130 => ?_)
                    · refine lv_iload hx hb dL_isSo_175 (lv_at hl 4 rfl) ?_
                      refine pz_if_lt (tgt := 195) hx hb (by omega) dL_isSo_177 (by decide) (fun c_131 => ?_) (fun c_131 => ?_)
                      · refine lv_iload hx hb dL_isSo_195 (lv_at hl 4 rfl) ?_
                        refine pz_if_lt (tgt := 205) hx hb (by omega) dL_isSo_197 (by decide) (fun c_132 => ?_) (fun c_132 => ?_)
                        · refine lv_iload hx hb dL_isSo_205 (lv_at hl 4 rfl) ?_
                          refine pz_if_ge (tgt := 214) hx hb (by omega) dL_isSo_207 (by decide) (fun c_133 => ?_) (fun c_133 => ?_)
                          · refine lv_iconst (v := zi 0) hx hb dL_isSo_214 (by decide) ?_
                            refine lv_aload_n hx hb dL_isSo_215 rfl (lv_at hl 5 rfl) ?_
                            refine lv_iload_n hx hb dL_isSo_216 rfl (lv_at hl 7 rfl) ?_
                            refine lv_iconst (v := zi 3) hx hb dL_isSo_217 (by decide) ?_
                            have hPc := hP.part (cx := []) [] rfl
                            have hDc := hD.part (cx := []) [] (by decide) rfl
                            have hFc := va_freeP (cx := []) hD hS hA [] rfl
                            refine va_calli (va_runV (As := [.int (zi j), .int (zi 3)]) (rest := [.int (zi 0)]) ⟨hx, hb, hml, hown, hts⟩ (c_X7_ofMachine l dC dI cI cZ cM cT H.size hh ms gv tn tb κ1_54 j am aw av ax T kk ka kb 3 (by first | assumption | omega | rfl) hz_55 (by first | assumption | omega | rfl) hμ (by first | assumption | omega | rfl)) (cwV 2 hts (goodIn_of _ (by decide +kernel)) rfl rfl rfl (by decide +kernel) ⟨Nat.le_of_ble_eq_true rfl, Nat.le_of_ble_eq_true rfl⟩) ⟨fun a U g mk q => by obtain ⟨q0, q1, qP, qK, qD⟩ := q; exact ⟨q0, q1, qP, va_K.moved (u := U) (U := U.calling g mk a) (Vm.Alike.refl U.vm) qK, qD⟩, va_recv hK hPc (ci := 6) (q0 := 0) rfl rfl, fun U hU hW => ⟨rfl, by rw [hU], by rw [hU]; exact hPc, va_K.moved hW.alike hK, hDc.weaken (fun _ _ _ _ => trivial)⟩⟩ rfl rfl hl.1 rfl (lv_room (Nat.le_of_ble_eq_true rfl)) dL_isSo_218 ⟨Nat.le_of_ble_eq_true rfl, Nat.le_of_ble_eq_true rfl⟩) hS (fun q _ h => hFc q h) hFc (fun r_134 u t H1 locs ht hvm hw hB hz1 hk1 hS => ?_)
                            obtain ⟨κ1_135, hz_136, hP1, hK1, hD1⟩ := hB
                            rw [ht] at hP1
                            obtain ⟨hP, hD⟩ := va_joinP (wr := [(q_1, .inl (cI, 5, .inl (zf (pz_u g (kk + 1).toNat ((g (kk + 1).toNat) + 1)))))]) (rx := []) (pl1 := (pq_WD cI cZ cM cT hh ms gv tn tb κ1_135)) hP hD [] [0] rfl rfl (by decide) (by decide) hk1 hFc hP1 hD1
                            generalize H1 = H at hP hS ⊢
                            have hP : va_P (dC, dI) vwCl ([(q_1, .inl (cI, 5, .inl (zf (pz_u g (kk + 1).toNat ((g (kk + 1).toNat) + 1)))))] ++ (pq_WD cI cZ cM cT hh ms gv tn tb κ1_135)) H := hP
                            have hD : va_D A ([(q_1, .inl (cI, 5, .inl (zf (pz_u g (kk + 1).toNat ((g (kk + 1).toNat) + 1)))))] ++ (pq_WD cI cZ cM cT hh ms gv tn tb κ1_135)) := hD
                            refine W.widen (k := 1) (n := 5) (Nat.le_of_ble_eq_true rfl) (Nat.le_of_ble_eq_true rfl) ?_
                            obtain rfl : r_134 = zi (pq_om T kk ka kb (3 : Int)) := hw
                            refine pz_top (y := zi ka) (congrArg zi (rfl)) ?_
                            refine pz_if_ge (tgt := 228) hx hb (by omega) dL_isSo_221 (by decide) (fun c_137 => ?_) (fun c_137 => ?_)
                            · refine lv_iconst (v := zi 0) hx hb dL_isSo_228 (by decide) ?_
                              refine pz_icmp_ne (tgt := 254) hx hb (by omega) dL_isSo_229 (by decide) (fun c_138 => ?_) (fun c_138 => ?_)
                              · exact absurd c_138 (by omega)
                              · refine lv_iload hx hb dL_isSo_232 (lv_at hl 2 rfl) ?_
                                refine pz_if_eq (tgt := 256) hx hb (by omega) dL_isSo_234 (by decide) (fun c_139 => ?_) (fun c_139 => ?_)
                                · have hg2 := pq_kinds hj.1 hμ (show -1 ≤ kk ∧ kk ≤ 3 by omega) hg
                                  have he2 : e9 + q = pq_cy (ms.take (j + 1).toNat) := by rw [pq_cy_1 hj.1 hμ, ← he, hq2]
                                  refine pz_iinc (lv' := [(3, .int (zi (j + 1))), (2, .int (zi (e9 + q))), (8, .int (zi (pq_ways T))), (7, .int (zi 0)), (5, .int (zi (pq_n T))), (4, .int (zi kk)), (0, .ref hh), (1, .ref q_1), (6, .int (zi q))]) hx hb dL_isSo_256 hl (k := 7) rfl (by decide) rfl (fun ls hl => ?_)
                                  refine lv_goto (tgt := 8) hx hb dL_isSo_259 (by decide) ?_
                                  exact ih_8 _ _ _ _ ⟨pz_u g (kk + 1).toNat ((g (kk + 1).toNat) + 1), e9 + q, j + 1, κ1_135, rfl, (by first | assumption | omega | rfl), hg2, he2, hz_136, hP, hD, hS, lv_sub hl [6, 7, 1, 0] rfl⟩ (by omega)
                                · exact absurd c_139 (by omega)
                            · refine lv_iconst (v := zi 1) hx hb dL_isSo_224 (by decide) ?_
                              refine lv_goto (tgt := 229) hx hb dL_isSo_225 (by decide) ?_
                              refine pz_icmp_ne (tgt := 254) hx hb (by omega) dL_isSo_229 (by decide) (fun c_140 => ?_) (fun c_140 => ?_)
                              · exact (show False by omega).elim
                              · exact absurd c_140 (by omega)
                          · refine lv_iconst (v := zi 1) hx hb dL_isSo_210 (by decide) ?_
                            refine lv_goto (tgt := 215) hx hb dL_isSo_211 (by decide) ?_
                            refine lv_aload_n hx hb dL_isSo_215 rfl (lv_at hl 5 rfl) ?_
                            refine lv_iload_n hx hb dL_isSo_216 rfl (lv_at hl 7 rfl) ?_
                            refine lv_iconst (v := zi 3) hx hb dL_isSo_217 (by decide) ?_
                            have hPc := hP.part (cx := []) [] rfl
                            have hDc := hD.part (cx := []) [] (by decide) rfl
                            have hFc := va_freeP (cx := []) hD hS hA [] rfl
                            refine va_calli (va_runV (As := [.int (zi j), .int (zi 3)]) (rest := [.int (zi 1)]) ⟨hx, hb, hml, hown, hts⟩ (c_X7_ofMachine l dC dI cI cZ cM cT H.size hh ms gv tn tb κ1_54 j am aw av ax T kk ka kb 3 (by first | assumption | omega | rfl) hz_55 (by first | assumption | omega | rfl) hμ (by first | assumption | omega | rfl)) (cwV 2 hts (goodIn_of _ (by decide +kernel)) rfl rfl rfl (by decide +kernel) ⟨Nat.le_of_ble_eq_true rfl, Nat.le_of_ble_eq_true rfl⟩) ⟨fun a U g mk q => by obtain ⟨q0, q1, qP, qK, qD⟩ := q; exact ⟨q0, q1, qP, va_K.moved (u := U) (U := U.calling g mk a) (Vm.Alike.refl U.vm) qK, qD⟩, va_recv hK hPc (ci := 6) (q0 := 0) rfl rfl, fun U hU hW => ⟨rfl, by rw [hU], by rw [hU]; exact hPc, va_K.moved hW.alike hK, hDc.weaken (fun _ _ _ _ => trivial)⟩⟩ rfl rfl hl.1 rfl (lv_room (Nat.le_of_ble_eq_true rfl)) dL_isSo_218 ⟨Nat.le_of_ble_eq_true rfl, Nat.le_of_ble_eq_true rfl⟩) hS (fun q _ h => hFc q h) hFc (fun r_141 u t H1 locs ht hvm hw hB hz1 hk1 hS => ?_)
                            obtain ⟨κ1_142, hz_143, hP1, hK1, hD1⟩ := hB
                            rw [ht] at hP1
                            obtain ⟨hP, hD⟩ := va_joinP (wr := [(q_1, .inl (cI, 5, .inl (zf (pz_u g (kk + 1).toNat ((g (kk + 1).toNat) + 1)))))]) (rx := []) (pl1 := (pq_WD cI cZ cM cT hh ms gv tn tb κ1_142)) hP hD [] [0] rfl rfl (by decide) (by decide) hk1 hFc hP1 hD1
                            generalize H1 = H at hP hS ⊢
                            have hP : va_P (dC, dI) vwCl ([(q_1, .inl (cI, 5, .inl (zf (pz_u g (kk + 1).toNat ((g (kk + 1).toNat) + 1)))))] ++ (pq_WD cI cZ cM cT hh ms gv tn tb κ1_142)) H := hP
                            have hD : va_D A ([(q_1, .inl (cI, 5, .inl (zf (pz_u g (kk + 1).toNat ((g (kk + 1).toNat) + 1)))))] ++ (pq_WD cI cZ cM cT hh ms gv tn tb κ1_142)) := hD
                            refine W.widen (k := 1) (n := 5) (Nat.le_of_ble_eq_true rfl) (Nat.le_of_ble_eq_true rfl) ?_
                            obtain rfl : r_141 = zi (pq_om T kk ka kb (3 : Int)) := hw
                            refine pz_top (y := zi ka) (congrArg zi (rfl)) ?_
                            refine pz_if_ge (tgt := 228) hx hb (by omega) dL_isSo_221 (by decide) (fun c_144 => ?_) (fun c_144 => ?_)
                            · refine lv_iconst (v := zi 0) hx hb dL_isSo_228 (by decide) ?_
                              refine pz_icmp_ne (tgt := 254) hx hb (by omega) dL_isSo_229 (by decide) (fun c_145 => ?_) (fun c_145 => ?_)
                              · exact (show False by omega).elim
                              · exact absurd c_145 (by omega)
                            · refine lv_iconst (v := zi 1) hx hb dL_isSo_224 (by decide) ?_
                              refine lv_goto (tgt := 229) hx hb dL_isSo_225 (by decide) ?_
                              refine pz_icmp_ne (tgt := 254) hx hb (by omega) dL_isSo_229 (by decide) (fun c_146 => ?_) (fun c_146 => ?_)
                              · exact absurd c_146 (by omega)
                              · refine lv_iload hx hb dL_isSo_232 (lv_at hl 2 rfl) ?_
                                refine pz_if_eq (tgt := 256) hx hb (by omega) dL_isSo_234 (by decide) (fun c_147 => ?_) (fun c_147 => ?_)
                                · have hg2 := pq_kinds hj.1 hμ (show -1 ≤ kk ∧ kk ≤ 3 by omega) hg
                                  have he2 : e9 + q = pq_cy (ms.take (j + 1).toNat) := by rw [pq_cy_1 hj.1 hμ, ← he, hq2]
                                  refine pz_iinc (lv' := [(3, .int (zi (j + 1))), (2, .int (zi (e9 + q))), (8, .int (zi (pq_ways T))), (7, .int (zi 0)), (5, .int (zi (pq_n T))), (4, .int (zi kk)), (0, .ref hh), (1, .ref q_1), (6, .int (zi q))]) hx hb dL_isSo_256 hl (k := 7) rfl (by decide) rfl (fun ls hl => ?_)
                                  refine lv_goto (tgt := 8) hx hb dL_isSo_259 (by decide) ?_
                                  exact ih_8 _ _ _ _ ⟨pz_u g (kk + 1).toNat ((g (kk + 1).toNat) + 1), e9 + q, j + 1, κ1_142, rfl, (by first | assumption | omega | rfl), hg2, he2, hz_143, hP, hD, hS, lv_sub hl [6, 7, 1, 0] rfl⟩ (by omega)
                                · exact absurd c_147 (by omega)
                        · refine lv_iload hx hb dL_isSo_200 (lv_at hl 1 rfl) ?_
                          refine pz_if_gt (tgt := 254) hx hb (by omega) dL_isSo_202 (by decide) (fun c_148 => ?_) (fun c_148 => ?_)
                          · exact (show False by omega).elim
                          · refine lv_iload hx hb dL_isSo_205 (lv_at hl 4 rfl) ?_
                            refine pz_if_ge (tgt := 214) hx hb (by omega) dL_isSo_207 (by decide) (fun c_149 => ?_) (fun c_149 => ?_)
                            · refine lv_iconst (v := zi 0) hx hb dL_isSo_214 (by decide) ?_
                              refine lv_aload_n hx hb dL_isSo_215 rfl (lv_at hl 5 rfl) ?_
                              refine lv_iload_n hx hb dL_isSo_216 rfl (lv_at hl 7 rfl) ?_
                              refine lv_iconst (v := zi 3) hx hb dL_isSo_217 (by decide) ?_
                              have hPc := hP.part (cx := []) [] rfl
                              have hDc := hD.part (cx := []) [] (by decide) rfl
                              have hFc := va_freeP (cx := []) hD hS hA [] rfl
                              refine va_calli (va_runV (As := [.int (zi j), .int (zi 3)]) (rest := [.int (zi 0)]) ⟨hx, hb, hml, hown, hts⟩ (c_X7_ofMachine l dC dI cI cZ cM cT H.size hh ms gv tn tb κ1_54 j am aw av ax T kk ka kb 3 (by first | assumption | omega | rfl) hz_55 (by first | assumption | omega | rfl) hμ (by first | assumption | omega | rfl)) (cwV 2 hts (goodIn_of _ (by decide +kernel)) rfl rfl rfl (by decide +kernel) ⟨Nat.le_of_ble_eq_true rfl, Nat.le_of_ble_eq_true rfl⟩) ⟨fun a U g mk q => by obtain ⟨q0, q1, qP, qK, qD⟩ := q; exact ⟨q0, q1, qP, va_K.moved (u := U) (U := U.calling g mk a) (Vm.Alike.refl U.vm) qK, qD⟩, va_recv hK hPc (ci := 6) (q0 := 0) rfl rfl, fun U hU hW => ⟨rfl, by rw [hU], by rw [hU]; exact hPc, va_K.moved hW.alike hK, hDc.weaken (fun _ _ _ _ => trivial)⟩⟩ rfl rfl hl.1 rfl (lv_room (Nat.le_of_ble_eq_true rfl)) dL_isSo_218 ⟨Nat.le_of_ble_eq_true rfl, Nat.le_of_ble_eq_true rfl⟩) hS (fun q _ h => hFc q h) hFc (fun r_150 u t H1 locs ht hvm hw hB hz1 hk1 hS => ?_)
                              obtain ⟨κ1_151, hz_152, hP1, hK1, hD1⟩ := hB
                              rw [ht] at hP1
                              obtain ⟨hP, hD⟩ := va_joinP (wr := [(q_1, .inl (cI, 5, .inl (zf (pz_u g (kk + 1).toNat ((g (kk + 1).toNat) + 1)))))]) (rx := []) (pl1 := (pq_WD cI cZ cM cT hh ms gv tn tb κ1_151)) hP hD [] [0] rfl rfl (by decide) (by decide) hk1 hFc hP1 hD1
                              generalize H1 = H at hP hS ⊢
                              have hP : va_P (dC, dI) vwCl ([(q_1, .inl (cI, 5, .inl (zf (pz_u g (kk + 1).toNat ((g (kk + 1).toNat) + 1)))))] ++ (pq_WD cI cZ cM cT hh ms gv tn tb κ1_151)) H := hP
                              have hD : va_D A ([(q_1, .inl (cI, 5, .inl (zf (pz_u g (kk + 1).toNat ((g (kk + 1).toNat) + 1)))))] ++ (pq_WD cI cZ cM cT hh ms gv tn tb κ1_151)) := hD
                              refine W.widen (k := 1) (n := 5) (Nat.le_of_ble_eq_true rfl) (Nat.le_of_ble_eq_true rfl) ?_
                              obtain rfl : r_150 = zi (pq_om T kk ka kb (3 : Int)) := hw
                              refine pz_top (y := zi ka) (congrArg zi (rfl)) ?_
                              refine pz_if_ge (tgt := 228) hx hb (by omega) dL_isSo_221 (by decide) (fun c_153 => ?_) (fun c_153 => ?_)
                              · refine lv_iconst (v := zi 0) hx hb dL_isSo_228 (by decide) ?_
                                refine pz_icmp_ne (tgt := 254) hx hb (by omega) dL_isSo_229 (by decide) (fun c_154 => ?_) (fun c_154 => ?_)
                                · exact absurd c_154 (by omega)
                                · refine lv_iload hx hb dL_isSo_232 (lv_at hl 2 rfl) ?_
                                  refine pz_if_eq (tgt := 256) hx hb (by omega) dL_isSo_234 (by decide) (fun c_155 => ?_) (fun c_155 => ?_)
                                  · have hg2 := pq_kinds hj.1 hμ (show -1 ≤ kk ∧ kk ≤ 3 by omega) hg
                                    have he2 : e9 + q = pq_cy (ms.take (j + 1).toNat) := by rw [pq_cy_1 hj.1 hμ, ← he, hq2]
                                    refine pz_iinc (lv' := [(3, .int (zi (j + 1))), (2, .int (zi (e9 + q))), (8, .int (zi (pq_ways T))), (7, .int (zi 0)), (5, .int (zi (pq_n T))), (4, .int (zi kk)), (0, .ref hh), (1, .ref q_1), (6, .int (zi q))]) hx hb dL_isSo_256 hl (k := 7) rfl (by decide) rfl (fun ls hl => ?_)
                                    refine lv_goto (tgt := 8) hx hb dL_isSo_259 (by decide) ?_
                                    exact ih_8 _ _ _ _ ⟨pz_u g (kk + 1).toNat ((g (kk + 1).toNat) + 1), e9 + q, j + 1, κ1_151, rfl, (by first | assumption | omega | rfl), hg2, he2, hz_152, hP, hD, hS, lv_sub hl [6, 7, 1, 0] rfl⟩ (by omega)
                                  · exact absurd c_155 (by omega)
                              · refine lv_iconst (v := zi 1) hx hb dL_isSo_224 (by decide) ?_
                                refine lv_goto (tgt := 229) hx hb dL_isSo_225 (by decide) ?_
                                refine pz_icmp_ne (tgt := 254) hx hb (by omega) dL_isSo_229 (by decide) (fun c_156 => ?_) (fun c_156 => ?_)
                                · exact (show False by omega).elim
                                · exact absurd c_156 (by omega)
                            · refine lv_iconst (v := zi 1) hx hb dL_isSo_210 (by decide) ?_
                              refine lv_goto (tgt := 215) hx hb dL_isSo_211 (by decide) ?_
                              refine lv_aload_n hx hb dL_isSo_215 rfl (lv_at hl 5 rfl) ?_
                              refine lv_iload_n hx hb dL_isSo_216 rfl (lv_at hl 7 rfl) ?_
                              refine lv_iconst (v := zi 3) hx hb dL_isSo_217 (by decide) ?_
                              have hPc := hP.part (cx := []) [] rfl
                              have hDc := hD.part (cx := []) [] (by decide) rfl
                              have hFc := va_freeP (cx := []) hD hS hA [] rfl
                              refine va_calli (va_runV (As := [.int (zi j), .int (zi 3)]) (rest := [.int (zi 1)]) ⟨hx, hb, hml, hown, hts⟩ (c_X7_ofMachine l dC dI cI cZ cM cT H.size hh ms gv tn tb κ1_54 j am aw av ax T kk ka kb 3 (by first | assumption | omega | rfl) hz_55 (by first | assumption | omega | rfl) hμ (by first | assumption | omega | rfl)) (cwV 2 hts (goodIn_of _ (by decide +kernel)) rfl rfl rfl (by decide +kernel) ⟨Nat.le_of_ble_eq_true rfl, Nat.le_of_ble_eq_true rfl⟩) ⟨fun a U g mk q => by obtain ⟨q0, q1, qP, qK, qD⟩ := q; exact ⟨q0, q1, qP, va_K.moved (u := U) (U := U.calling g mk a) (Vm.Alike.refl U.vm) qK, qD⟩, va_recv hK hPc (ci := 6) (q0 := 0) rfl rfl, fun U hU hW => ⟨rfl, by rw [hU], by rw [hU]; exact hPc, va_K.moved hW.alike hK, hDc.weaken (fun _ _ _ _ => trivial)⟩⟩ rfl rfl hl.1 rfl (lv_room (Nat.le_of_ble_eq_true rfl)) dL_isSo_218 ⟨Nat.le_of_ble_eq_true rfl, Nat.le_of_ble_eq_true rfl⟩) hS (fun q _ h => hFc q h) hFc (fun r_157 u t H1 locs ht hvm hw hB hz1 hk1 hS => ?_)
                              obtain ⟨κ1_158, hz_159, hP1, hK1, hD1⟩ := hB
                              rw [ht] at hP1
                              obtain ⟨hP, hD⟩ := va_joinP (wr := [(q_1, .inl (cI, 5, .inl (zf (pz_u g (kk + 1).toNat ((g (kk + 1).toNat) + 1)))))]) (rx := []) (pl1 := (pq_WD cI cZ cM cT hh ms gv tn tb κ1_158)) hP hD [] [0] rfl rfl (by decide) (by decide) hk1 hFc hP1 hD1
                              generalize H1 = H at hP hS ⊢
                              have hP : va_P (dC, dI) vwCl ([(q_1, .inl (cI, 5, .inl (zf (pz_u g (kk + 1).toNat ((g (kk + 1).toNat) + 1)))))] ++ (pq_WD cI cZ cM cT hh ms gv tn tb κ1_158)) H := hP
                              have hD : va_D A ([(q_1, .inl (cI, 5, .inl (zf (pz_u g (kk + 1).toNat ((g (kk + 1).toNat) + 1)))))] ++ (pq_WD cI cZ cM cT hh ms gv tn tb κ1_158)) := hD
                              refine W.widen (k := 1) (n := 5) (Nat.le_of_ble_eq_true rfl) (Nat.le_of_ble_eq_true rfl) ?_
                              obtain rfl : r_157 = zi (pq_om T kk ka kb (3 : Int)) := hw
                              refine pz_top (y := zi ka) (congrArg zi (rfl)) ?_
                              refine pz_if_ge (tgt := 228) hx hb (by omega) dL_isSo_221 (by decide) (fun c_160 => ?_) (fun c_160 => ?_)
                              · refine lv_iconst (v := zi 0) hx hb dL_isSo_228 (by decide) ?_
                                refine pz_icmp_ne (tgt := 254) hx hb (by omega) dL_isSo_229 (by decide) (fun c_161 => ?_) (fun c_161 => ?_)
                                · exact (show False by omega).elim
                                · exact absurd c_161 (by omega)
                              · refine lv_iconst (v := zi 1) hx hb dL_isSo_224 (by decide) ?_
                                refine lv_goto (tgt := 229) hx hb dL_isSo_225 (by decide) ?_
                                refine pz_icmp_ne (tgt := 254) hx hb (by omega) dL_isSo_229 (by decide) (fun c_162 => ?_) (fun c_162 => ?_)
                                · exact absurd c_162 (by omega)
                                · refine lv_iload hx hb dL_isSo_232 (lv_at hl 2 rfl) ?_
                                  refine pz_if_eq (tgt := 256) hx hb (by omega) dL_isSo_234 (by decide) (fun c_163 => ?_) (fun c_163 => ?_)
                                  · have hg2 := pq_kinds hj.1 hμ (show -1 ≤ kk ∧ kk ≤ 3 by omega) hg
                                    have he2 : e9 + q = pq_cy (ms.take (j + 1).toNat) := by rw [pq_cy_1 hj.1 hμ, ← he, hq2]
                                    refine pz_iinc (lv' := [(3, .int (zi (j + 1))), (2, .int (zi (e9 + q))), (8, .int (zi (pq_ways T))), (7, .int (zi 0)), (5, .int (zi (pq_n T))), (4, .int (zi kk)), (0, .ref hh), (1, .ref q_1), (6, .int (zi q))]) hx hb dL_isSo_256 hl (k := 7) rfl (by decide) rfl (fun ls hl => ?_)
                                    refine lv_goto (tgt := 8) hx hb dL_isSo_259 (by decide) ?_
                                    exact ih_8 _ _ _ _ ⟨pz_u g (kk + 1).toNat ((g (kk + 1).toNat) + 1), e9 + q, j + 1, κ1_158, rfl, (by first | assumption | omega | rfl), hg2, he2, hz_159, hP, hD, hS, lv_sub hl [6, 7, 1, 0] rfl⟩ (by omega)
                                  · exact absurd c_163 (by omega)
                      · refine lv_iload hx hb dL_isSo_180 (lv_at hl 4 rfl) ?_
                        refine pz_if_ne (tgt := 189) hx hb (by omega) dL_isSo_182 (by decide) (fun c_164 => ?_) (fun c_164 => ?_)
                        · refine lv_iconst (v := zi 0) hx hb dL_isSo_189 (by decide) ?_
                          refine lv_iload hx hb dL_isSo_190 (lv_at hl 2 rfl) ?_
                          refine pz_icmp_ne (tgt := 254) hx hb (by omega) dL_isSo_192 (by decide) (fun c_165 => ?_) (fun c_165 => ?_)
                          · exact absurd c_165 (by omega)
                          · refine lv_iload hx hb dL_isSo_195 (lv_at hl 4 rfl) ?_
                            refine pz_if_lt (tgt := 205) hx hb (by omega) dL_isSo_197 (by decide) (fun c_166 => ?_) (fun c_166 => ?_)
                            · refine lv_iload hx hb dL_isSo_205 (lv_at hl 4 rfl) ?_
                              refine pz_if_ge (tgt := 214) hx hb (by omega) dL_isSo_207 (by decide) (fun c_167 => ?_) (fun c_167 => ?_)
                              · refine lv_iconst (v := zi 0) hx hb dL_isSo_214 (by decide) ?_
                                refine lv_aload_n hx hb dL_isSo_215 rfl (lv_at hl 5 rfl) ?_
                                refine lv_iload_n hx hb dL_isSo_216 rfl (lv_at hl 7 rfl) ?_
                                refine lv_iconst (v := zi 3) hx hb dL_isSo_217 (by decide) ?_
                                have hPc := hP.part (cx := []) [] rfl
                                have hDc := hD.part (cx := []) [] (by decide) rfl
                                have hFc := va_freeP (cx := []) hD hS hA [] rfl
                                refine va_calli (va_runV (As := [.int (zi j), .int (zi 3)]) (rest := [.int (zi 0)]) ⟨hx, hb, hml, hown, hts⟩ (c_X7_ofMachine l dC dI cI cZ cM cT H.size hh ms gv tn tb κ1_54 j am aw av ax T kk ka kb 3 (by first | assumption | omega | rfl) hz_55 (by first | assumption | omega | rfl) hμ (by first | assumption | omega | rfl)) (cwV 2 hts (goodIn_of _ (by decide +kernel)) rfl rfl rfl (by decide +kernel) ⟨Nat.le_of_ble_eq_true rfl, Nat.le_of_ble_eq_true rfl⟩) ⟨fun a U g mk q => by obtain ⟨q0, q1, qP, qK, qD⟩ := q; exact ⟨q0, q1, qP, va_K.moved (u := U) (U := U.calling g mk a) (Vm.Alike.refl U.vm) qK, qD⟩, va_recv hK hPc (ci := 6) (q0 := 0) rfl rfl, fun U hU hW => ⟨rfl, by rw [hU], by rw [hU]; exact hPc, va_K.moved hW.alike hK, hDc.weaken (fun _ _ _ _ => trivial)⟩⟩ rfl rfl hl.1 rfl (lv_room (Nat.le_of_ble_eq_true rfl)) dL_isSo_218 ⟨Nat.le_of_ble_eq_true rfl, Nat.le_of_ble_eq_true rfl⟩) hS (fun q _ h => hFc q h) hFc (fun r_168 u t H1 locs ht hvm hw hB hz1 hk1 hS => ?_)
                                obtain ⟨κ1_169, hz_170, hP1, hK1, hD1⟩ := hB
                                rw [ht] at hP1
                                obtain ⟨hP, hD⟩ := va_joinP (wr := [(q_1, .inl (cI, 5, .inl (zf (pz_u g (kk + 1).toNat ((g (kk + 1).toNat) + 1)))))]) (rx := []) (pl1 := (pq_WD cI cZ cM cT hh ms gv tn tb κ1_169)) hP hD [] [0] rfl rfl (by decide) (by decide) hk1 hFc hP1 hD1
                                generalize H1 = H at hP hS ⊢
                                have hP : va_P (dC, dI) vwCl ([(q_1, .inl (cI, 5, .inl (zf (pz_u g (kk + 1).toNat ((g (kk + 1).toNat) + 1)))))] ++ (pq_WD cI cZ cM cT hh ms gv tn tb κ1_169)) H := hP
                                have hD : va_D A ([(q_1, .inl (cI, 5, .inl (zf (pz_u g (kk + 1).toNat ((g (kk + 1).toNat) + 1)))))] ++ (pq_WD cI cZ cM cT hh ms gv tn tb κ1_169)) := hD
                                refine W.widen (k := 1) (n := 5) (Nat.le_of_ble_eq_true rfl) (Nat.le_of_ble_eq_true rfl) ?_
                                obtain rfl : r_168 = zi (pq_om T kk ka kb (3 : Int)) := hw
                                refine pz_top (y := zi ka) (congrArg zi (rfl)) ?_
                                refine pz_if_ge (tgt := 228) hx hb (by omega) dL_isSo_221 (by decide) (fun c_171 => ?_) (fun c_171 => ?_)
                                · refine lv_iconst (v := zi 0) hx hb dL_isSo_228 (by decide) ?_
                                  refine pz_icmp_ne (tgt := 254) hx hb (by omega) dL_isSo_229 (by decide) (fun c_172 => ?_) (fun c_172 => ?_)
                                  · exact absurd c_172 (by omega)
                                  · refine lv_iload hx hb dL_isSo_232 (lv_at hl 2 rfl) ?_
                                    refine pz_if_eq (tgt := 256) hx hb (by omega) dL_isSo_234 (by decide) (fun c_173 => ?_) (fun c_173 => ?_)
                                    · have hg2 := pq_kinds hj.1 hμ (show -1 ≤ kk ∧ kk ≤ 3 by omega) hg
                                      have he2 : e9 + q = pq_cy (ms.take (j + 1).toNat) := by rw [pq_cy_1 hj.1 hμ, ← he, hq2]
                                      refine pz_iinc (lv' := [(3, .int (zi (j + 1))), (2, .int (zi (e9 + q))), (8, .int (zi (pq_ways T))), (7, .int (zi 0)), (5, .int (zi (pq_n T))), (4, .int (zi kk)), (0, .ref hh), (1, .ref q_1), (6, .int (zi q))]) hx hb dL_isSo_256 hl (k := 7) rfl (by decide) rfl (fun ls hl => ?_)
                                      refine lv_goto (tgt := 8) hx hb dL_isSo_259 (by decide) ?_
                                      exact ih_8 _ _ _ _ ⟨pz_u g (kk + 1).toNat ((g (kk + 1).toNat) + 1), e9 + q, j + 1, κ1_169, rfl, (by first | assumption | omega | rfl), hg2, he2, hz_170, hP, hD, hS, lv_sub hl [6, 7, 1, 0] rfl⟩ (by omega)
                                    · exact absurd c_173 (by omega)
                                · refine lv_iconst (v := zi 1) hx hb dL_isSo_224 (by decide) ?_
                                  refine lv_goto (tgt := 229) hx hb dL_isSo_225 (by decide) ?_
                                  refine pz_icmp_ne (tgt := 254) hx hb (by omega) dL_isSo_229 (by decide) (fun c_174 => ?_) (fun c_174 => ?_)
                                  · exact (show False by omega).elim
                                  · exact absurd c_174 (by omega)
                              · refine lv_iconst (v := zi 1) hx hb dL_isSo_210 (by decide) ?_
                                refine lv_goto (tgt := 215) hx hb dL_isSo_211 (by decide) ?_
                                refine lv_aload_n hx hb dL_isSo_215 rfl (lv_at hl 5 rfl) ?_
                                refine lv_iload_n hx hb dL_isSo_216 rfl (lv_at hl 7 rfl) ?_
                                refine lv_iconst (v := zi 3) hx hb dL_isSo_217 (by decide) ?_
                                have hPc := hP.part (cx := []) [] rfl
                                have hDc := hD.part (cx := []) [] (by decide) rfl
                                have hFc := va_freeP (cx := []) hD hS hA [] rfl
                                refine va_calli (va_runV (As := [.int (zi j), .int (zi 3)]) (rest := [.int (zi 1)]) ⟨hx, hb, hml, hown, hts⟩ (c_X7_ofMachine l dC dI cI cZ cM cT H.size hh ms gv tn tb κ1_54 j am aw av ax T kk ka kb 3 (by first | assumption | omega | rfl) hz_55 (by first | assumption | omega | rfl) hμ (by first | assumption | omega | rfl)) (cwV 2 hts (goodIn_of _ (by decide +kernel)) rfl rfl rfl (by decide +kernel) ⟨Nat.le_of_ble_eq_true rfl, Nat.le_of_ble_eq_true rfl⟩) ⟨fun a U g mk q => by obtain ⟨q0, q1, qP, qK, qD⟩ := q; exact ⟨q0, q1, qP, va_K.moved (u := U) (U := U.calling g mk a) (Vm.Alike.refl U.vm) qK, qD⟩, va_recv hK hPc (ci := 6) (q0 := 0) rfl rfl, fun U hU hW => ⟨rfl, by rw [hU], by rw [hU]; exact hPc, va_K.moved hW.alike hK, hDc.weaken (fun _ _ _ _ => trivial)⟩⟩ rfl rfl hl.1 rfl (lv_room (Nat.le_of_ble_eq_true rfl)) dL_isSo_218 ⟨Nat.le_of_ble_eq_true rfl, Nat.le_of_ble_eq_true rfl⟩) hS (fun q _ h => hFc q h) hFc (fun r_175 u t H1 locs ht hvm hw hB hz1 hk1 hS => ?_)
                                obtain ⟨κ1_176, hz_177, hP1, hK1, hD1⟩ := hB
                                rw [ht] at hP1
                                obtain ⟨hP, hD⟩ := va_joinP (wr := [(q_1, .inl (cI, 5, .inl (zf (pz_u g (kk + 1).toNat ((g (kk + 1).toNat) + 1)))))]) (rx := []) (pl1 := (pq_WD cI cZ cM cT hh ms gv tn tb κ1_176)) hP hD [] [0] rfl rfl (by decide) (by decide) hk1 hFc hP1 hD1
                                generalize H1 = H at hP hS ⊢
                                have hP : va_P (dC, dI) vwCl ([(q_1, .inl (cI, 5, .inl (zf (pz_u g (kk + 1).toNat ((g (kk + 1).toNat) + 1)))))] ++ (pq_WD cI cZ cM cT hh ms gv tn tb κ1_176)) H := hP
                                have hD : va_D A ([(q_1, .inl (cI, 5, .inl (zf (pz_u g (kk + 1).toNat ((g (kk + 1).toNat) + 1)))))] ++ (pq_WD cI cZ cM cT hh ms gv tn tb κ1_176)) := hD
                                refine W.widen (k := 1) (n := 5) (Nat.le_of_ble_eq_true rfl) (Nat.le_of_ble_eq_true rfl) ?_
                                obtain rfl : r_175 = zi (pq_om T kk ka kb (3 : Int)) := hw
                                refine pz_top (y := zi ka) (congrArg zi (rfl)) ?_
                                refine pz_if_ge (tgt := 228) hx hb (by omega) dL_isSo_221 (by decide) (fun c_178 => ?_) (fun c_178 => ?_)
                                · refine lv_iconst (v := zi 0) hx hb dL_isSo_228 (by decide) ?_
                                  refine pz_icmp_ne (tgt := 254) hx hb (by omega) dL_isSo_229 (by decide) (fun c_179 => ?_) (fun c_179 => ?_)
                                  · exact (show False by omega).elim
                                  · exact absurd c_179 (by omega)
                                · refine lv_iconst (v := zi 1) hx hb dL_isSo_224 (by decide) ?_
                                  refine lv_goto (tgt := 229) hx hb dL_isSo_225 (by decide) ?_
                                  refine pz_icmp_ne (tgt := 254) hx hb (by omega) dL_isSo_229 (by decide) (fun c_180 => ?_) (fun c_180 => ?_)
                                  · exact absurd c_180 (by omega)
                                  · refine lv_iload hx hb dL_isSo_232 (lv_at hl 2 rfl) ?_
                                    refine pz_if_eq (tgt := 256) hx hb (by omega) dL_isSo_234 (by decide) (fun c_181 => ?_) (fun c_181 => ?_)
                                    · have hg2 := pq_kinds hj.1 hμ (show -1 ≤ kk ∧ kk ≤ 3 by omega) hg
                                      have he2 : e9 + q = pq_cy (ms.take (j + 1).toNat) := by rw [pq_cy_1 hj.1 hμ, ← he, hq2]
                                      refine pz_iinc (lv' := [(3, .int (zi (j + 1))), (2, .int (zi (e9 + q))), (8, .int (zi (pq_ways T))), (7, .int (zi 0)), (5, .int (zi (pq_n T))), (4, .int (zi kk)), (0, .ref hh), (1, .ref q_1), (6, .int (zi q))]) hx hb dL_isSo_256 hl (k := 7) rfl (by decide) rfl (fun ls hl => ?_)
                                      refine lv_goto (tgt := 8) hx hb dL_isSo_259 (by decide) ?_
                                      exact ih_8 _ _ _ _ ⟨pz_u g (kk + 1).toNat ((g (kk + 1).toNat) + 1), e9 + q, j + 1, κ1_176, rfl, (by first | assumption | omega | rfl), hg2, he2, hz_177, hP, hD, hS, lv_sub hl [6, 7, 1, 0] rfl⟩ (by omega)
                                    · exact absurd c_181 (by omega)
                            · refine lv_iload hx hb dL_isSo_200 (lv_at hl 1 rfl) ?_
                              refine pz_if_gt (tgt := 254) hx hb (by omega) dL_isSo_202 (by decide) (fun c_182 => ?_) (fun c_182 => ?_)
                              · exact (show False by omega).elim
                              · refine lv_iload hx hb dL_isSo_205 (lv_at hl 4 rfl) ?_
                                refine pz_if_ge (tgt := 214) hx hb (by omega) dL_isSo_207 (by decide) (fun c_183 => ?_) (fun c_183 => ?_)
                                · refine lv_iconst (v := zi 0) hx hb dL_isSo_214 (by decide) ?_
                                  refine lv_aload_n hx hb dL_isSo_215 rfl (lv_at hl 5 rfl) ?_
                                  refine lv_iload_n hx hb dL_isSo_216 rfl (lv_at hl 7 rfl) ?_
                                  refine lv_iconst (v := zi 3) hx hb dL_isSo_217 (by decide) ?_
                                  have hPc := hP.part (cx := []) [] rfl
                                  have hDc := hD.part (cx := []) [] (by decide) rfl
                                  have hFc := va_freeP (cx := []) hD hS hA [] rfl
                                  refine va_calli (va_runV (As := [.int (zi j), .int (zi 3)]) (rest := [.int (zi 0)]) ⟨hx, hb, hml, hown, hts⟩ (c_X7_ofMachine l dC dI cI cZ cM cT H.size hh ms gv tn tb κ1_54 j am aw av ax T kk ka kb 3 (by first | assumption | omega | rfl) hz_55 (by first | assumption | omega | rfl) hμ (by first | assumption | omega | rfl)) (cwV 2 hts (goodIn_of _ (by decide +kernel)) rfl rfl rfl (by decide +kernel) ⟨Nat.le_of_ble_eq_true rfl, Nat.le_of_ble_eq_true rfl⟩) ⟨fun a U g mk q => by obtain ⟨q0, q1, qP, qK, qD⟩ := q; exact ⟨q0, q1, qP, va_K.moved (u := U) (U := U.calling g mk a) (Vm.Alike.refl U.vm) qK, qD⟩, va_recv hK hPc (ci := 6) (q0 := 0) rfl rfl, fun U hU hW => ⟨rfl, by rw [hU], by rw [hU]; exact hPc, va_K.moved hW.alike hK, hDc.weaken (fun _ _ _ _ => trivial)⟩⟩ rfl rfl hl.1 rfl (lv_room (Nat.le_of_ble_eq_true rfl)) dL_isSo_218 ⟨Nat.le_of_ble_eq_true rfl, Nat.le_of_ble_eq_true rfl⟩) hS (fun q _ h => hFc q h) hFc (fun r_184 u t H1 locs ht hvm hw hB hz1 hk1 hS => ?_)
                                  obtain ⟨κ1_185, hz_186, hP1, hK1, hD1⟩ := hB
                                  rw [ht] at hP1
                                  obtain ⟨hP, hD⟩ := va_joinP (wr := [(q_1, .inl (cI, 5, .inl (zf (pz_u g (kk + 1).toNat ((g (kk + 1).toNat) + 1)))))]) (rx := []) (pl1 := (pq_WD cI cZ cM cT hh ms gv tn tb κ1_185)) hP hD [] [0] rfl rfl (by decide) (by decide) hk1 hFc hP1 hD1
                                  generalize H1 = H at hP hS ⊢
                                  have hP : va_P (dC, dI) vwCl ([(q_1, .inl (cI, 5, .inl (zf (pz_u g (kk + 1).toNat ((g (kk + 1).toNat) + 1)))))] ++ (pq_WD cI cZ cM cT hh ms gv tn tb κ1_185)) H := hP
                                  have hD : va_D A ([(q_1, .inl (cI, 5, .inl (zf (pz_u g (kk + 1).toNat ((g (kk + 1).toNat) + 1)))))] ++ (pq_WD cI cZ cM cT hh ms gv tn tb κ1_185)) := hD
                                  refine W.widen (k := 1) (n := 5) (Nat.le_of_ble_eq_true rfl) (Nat.le_of_ble_eq_true rfl) ?_
                                  obtain rfl : r_184 = zi (pq_om T kk ka kb (3 : Int)) := hw
                                  refine pz_top (y := zi ka) (congrArg zi (rfl)) ?_
                                  refine pz_if_ge (tgt := 228) hx hb (by omega) dL_isSo_221 (by decide) (fun c_187 => ?_) (fun c_187 => ?_)
                                  · refine lv_iconst (v := zi 0) hx hb dL_isSo_228 (by decide) ?_
                                    refine pz_icmp_ne (tgt := 254) hx hb (by omega) dL_isSo_229 (by decide) (fun c_188 => ?_) (fun c_188 => ?_)
                                    · exact absurd c_188 (by omega)
                                    · refine lv_iload hx hb dL_isSo_232 (lv_at hl 2 rfl) ?_
                                      refine pz_if_eq (tgt := 256) hx hb (by omega) dL_isSo_234 (by decide) (fun c_189 => ?_) (fun c_189 => ?_)
                                      · have hg2 := pq_kinds hj.1 hμ (show -1 ≤ kk ∧ kk ≤ 3 by omega) hg
                                        have he2 : e9 + q = pq_cy (ms.take (j + 1).toNat) := by rw [pq_cy_1 hj.1 hμ, ← he, hq2]
                                        refine pz_iinc (lv' := [(3, .int (zi (j + 1))), (2, .int (zi (e9 + q))), (8, .int (zi (pq_ways T))), (7, .int (zi 0)), (5, .int (zi (pq_n T))), (4, .int (zi kk)), (0, .ref hh), (1, .ref q_1), (6, .int (zi q))]) hx hb dL_isSo_256 hl (k := 7) rfl (by decide) rfl (fun ls hl => ?_)
                                        refine lv_goto (tgt := 8) hx hb dL_isSo_259 (by decide) ?_
                                        exact ih_8 _ _ _ _ ⟨pz_u g (kk + 1).toNat ((g (kk + 1).toNat) + 1), e9 + q, j + 1, κ1_185, rfl, (by first | assumption | omega | rfl), hg2, he2, hz_186, hP, hD, hS, lv_sub hl [6, 7, 1, 0] rfl⟩ (by omega)
                                      · exact absurd c_189 (by omega)
                                  · refine lv_iconst (v := zi 1) hx hb dL_isSo_224 (by decide) ?_
                                    refine lv_goto (tgt := 229) hx hb dL_isSo_225 (by decide) ?_
                                    refine pz_icmp_ne (tgt := 254) hx hb (by omega) dL_isSo_229 (by decide) (fun c_190 => ?_) (fun c_190 => ?_)
                                    · exact (show False by omega).elim
                                    · exact absurd c_190 (by omega)
                                · refine lv_iconst (v := zi 1) hx hb dL_isSo_210 (by decide) ?_
                                  refine lv_goto (tgt := 215) hx hb dL_isSo_211 (by decide) ?_
                                  refine lv_aload_n hx hb dL_isSo_215 rfl (lv_at hl 5 rfl) ?_
                                  refine lv_iload_n hx hb dL_isSo_216 rfl (lv_at hl 7 rfl) ?_
                                  refine lv_iconst (v := zi 3) hx hb dL_isSo_217 (by decide) ?_
                                  have hPc := hP.part (cx := []) [] rfl
                                  have hDc := hD.part (cx := []) [] (by decide) rfl
                                  have hFc := va_freeP (cx := []) hD hS hA [] rfl
                                  refine va_calli (va_runV (As := [.int (zi j), .int (zi 3)]) (rest := [.int (zi 1)]) ⟨hx, hb, hml, hown, hts⟩ (c_X7_ofMachine l dC dI cI cZ cM cT H.size hh ms gv tn tb κ1_54 j am aw av ax T kk ka kb 3 (by first | assumption | omega | rfl) hz_55 (by first | assumption | omega | rfl) hμ (by first | assumption | omega | rfl)) (cwV 2 hts (goodIn_of _ (by decide +kernel)) rfl rfl rfl (by decide +kernel) ⟨Nat.le_of_ble_eq_true rfl, Nat.le_of_ble_eq_true rfl⟩) ⟨fun a U g mk q => by obtain ⟨q0, q1, qP, qK, qD⟩ := q; exact ⟨q0, q1, qP, va_K.moved (u := U) (U := U.calling g mk a) (Vm.Alike.refl U.vm) qK, qD⟩, va_recv hK hPc (ci := 6) (q0 := 0) rfl rfl, fun U hU hW => ⟨rfl, by rw [hU], by rw [hU]; exact hPc, va_K.moved hW.alike hK, hDc.weaken (fun _ _ _ _ => trivial)⟩⟩ rfl rfl hl.1 rfl (lv_room (Nat.le_of_ble_eq_true rfl)) dL_isSo_218 ⟨Nat.le_of_ble_eq_true rfl, Nat.le_of_ble_eq_true rfl⟩) hS (fun q _ h => hFc q h) hFc (fun r_191 u t H1 locs ht hvm hw hB hz1 hk1 hS => ?_)
                                  obtain ⟨κ1_192, hz_193, hP1, hK1, hD1⟩ := hB
                                  rw [ht] at hP1
                                  obtain ⟨hP, hD⟩ := va_joinP (wr := [(q_1, .inl (cI, 5, .inl (zf (pz_u g (kk + 1).toNat ((g (kk + 1).toNat) + 1)))))]) (rx := []) (pl1 := (pq_WD cI cZ cM cT hh ms gv tn tb κ1_192)) hP hD [] [0] rfl rfl (by decide) (by decide) hk1 hFc hP1 hD1
                                  generalize H1 = H at hP hS ⊢
                                  have hP : va_P (dC, dI) vwCl ([(q_1, .inl (cI, 5, .inl (zf (pz_u g (kk + 1).toNat ((g (kk + 1).toNat) + 1)))))] ++ (pq_WD cI cZ cM cT hh ms gv tn tb κ1_192)) H := hP
                                  have hD : va_D A ([(q_1, .inl (cI, 5, .inl (zf (pz_u g (kk + 1).toNat ((g (kk + 1).toNat) + 1)))))] ++ (pq_WD cI cZ cM cT hh ms gv tn tb κ1_192)) := hD
                                  refine W.widen (k := 1) (n := 5) (Nat.le_of_ble_eq_true rfl) (Nat.le_of_ble_eq_true rfl) ?_
                                  obtain rfl : r_191 = zi (pq_om T kk ka kb (3 : Int)) := hw
                                  refine pz_top (y := zi ka) (congrArg zi (rfl)) ?_
                                  refine pz_if_ge (tgt := 228) hx hb (by omega) dL_isSo_221 (by decide) (fun c_194 => ?_) (fun c_194 => ?_)
                                  · refine lv_iconst (v := zi 0) hx hb dL_isSo_228 (by decide) ?_
                                    refine pz_icmp_ne (tgt := 254) hx hb (by omega) dL_isSo_229 (by decide) (fun c_195 => ?_) (fun c_195 => ?_)
                                    · exact (show False by omega).elim
                                    · exact absurd c_195 (by omega)
                                  · refine lv_iconst (v := zi 1) hx hb dL_isSo_224 (by decide) ?_
                                    refine lv_goto (tgt := 229) hx hb dL_isSo_225 (by decide) ?_
                                    refine pz_icmp_ne (tgt := 254) hx hb (by omega) dL_isSo_229 (by decide) (fun c_196 => ?_) (fun c_196 => ?_)
                                    · exact absurd c_196 (by omega)
                                    · refine lv_iload hx hb dL_isSo_232 (lv_at hl 2 rfl) ?_
                                      refine pz_if_eq (tgt := 256) hx hb (by omega) dL_isSo_234 (by decide) (fun c_197 => ?_) (fun c_197 => ?_)
                                      · have hg2 := pq_kinds hj.1 hμ (show -1 ≤ kk ∧ kk ≤ 3 by omega) hg
                                        have he2 : e9 + q = pq_cy (ms.take (j + 1).toNat) := by rw [pq_cy_1 hj.1 hμ, ← he, hq2]
                                        refine pz_iinc (lv' := [(3, .int (zi (j + 1))), (2, .int (zi (e9 + q))), (8, .int (zi (pq_ways T))), (7, .int (zi 0)), (5, .int (zi (pq_n T))), (4, .int (zi kk)), (0, .ref hh), (1, .ref q_1), (6, .int (zi q))]) hx hb dL_isSo_256 hl (k := 7) rfl (by decide) rfl (fun ls hl => ?_)
                                        refine lv_goto (tgt := 8) hx hb dL_isSo_259 (by decide) ?_
                                        exact ih_8 _ _ _ _ ⟨pz_u g (kk + 1).toNat ((g (kk + 1).toNat) + 1), e9 + q, j + 1, κ1_192, rfl, (by first | assumption | omega | rfl), hg2, he2, hz_193, hP, hD, hS, lv_sub hl [6, 7, 1, 0] rfl⟩ (by omega)
                                      · exact absurd c_197 (by omega)
                        · refine lv_iconst (v := zi 1) hx hb dL_isSo_185 (by decide) ?_
                          refine lv_goto (tgt := 190) hx hb dL_isSo_186 (by decide) ?_
                          refine lv_iload hx hb dL_isSo_190 (lv_at hl 2 rfl) ?_
                          refine pz_icmp_ne (tgt := 254) hx hb (by omega) dL_isSo_192 (by decide) (fun c_198 => ?_) (fun c_198 => ?_)
                          · exact (show False by omega).elim
                          · exact absurd c_198 (by omega)
                    · exact absurd c_130 (by omega)
      · refine lv_iconst (v := zi 1) hx hb dL_isSo_91 (by decide) ?_
        refine lv_goto (tgt := 96) hx hb dL_isSo_92 (by decide) ?_
        refine lv_istore (lv' := [(7, .int (zi 1)), (5, .int (zi (pq_n T))), (4, .int (zi kk)), (0, .ref hh), (1, .ref q_1), (2, .int (zi e9)), (3, .int (zi j)), (6, .int (zi q))]) hx hb dL_isSo_96 hl (by decide) rfl (fun ls hl => ?_)
        refine lv_aload_n hx hb dL_isSo_98 rfl (lv_at hl 3 rfl) ?_
        refine lv_iload_n hx hb dL_isSo_99 rfl (lv_at hl 6 rfl) ?_
        refine lv_iconst (v := zi 5) hx hb dL_isSo_100 (by decide) ?_
        have hPc := hP.part (cx := []) [] rfl
        have hDc := hD.part (cx := []) [] (by decide) rfl
        have hFc := va_freeP (cx := []) hD hS hA [] rfl
        refine va_calli (va_runV (As := [.int (zi j), .int (zi 5)]) (rest := []) ⟨hx, hb, hml, hown, hts⟩ (c_X7_ofMachine l dC dI cI cZ cM cT H.size hh ms gv tn tb κ1_47 j am aw av ax T kk ka kb 5 (by first | assumption | omega | rfl) hz_48 (by first | assumption | omega | rfl) hμ (by first | assumption | omega | rfl)) (cwV 2 hts (goodIn_of _ (by decide +kernel)) rfl rfl rfl (by decide +kernel) ⟨Nat.le_of_ble_eq_true rfl, Nat.le_of_ble_eq_true rfl⟩) ⟨fun a U g mk q => by obtain ⟨q0, q1, qP, qK, qD⟩ := q; exact ⟨q0, q1, qP, va_K.moved (u := U) (U := U.calling g mk a) (Vm.Alike.refl U.vm) qK, qD⟩, va_recv hK hPc (ci := 6) (q0 := 0) rfl rfl, fun U hU hW => ⟨rfl, by rw [hU], by rw [hU]; exact hPc, va_K.moved hW.alike hK, hDc.weaken (fun _ _ _ _ => trivial)⟩⟩ rfl rfl hl.1 rfl (lv_room (Nat.le_of_ble_eq_true rfl)) dL_isSo_101 ⟨Nat.le_of_ble_eq_true rfl, Nat.le_of_ble_eq_true rfl⟩) hS (fun q _ h => hFc q h) hFc (fun r_199 u t H1 locs ht hvm hw hB hz1 hk1 hS => ?_)
        obtain ⟨κ1_200, hz_201, hP1, hK1, hD1⟩ := hB
        rw [ht] at hP1
        obtain ⟨hP, hD⟩ := va_joinP (wr := [(q_1, .inl (cI, 5, .inl (zf g)))]) (rx := []) (pl1 := (pq_WD cI cZ cM cT hh ms gv tn tb κ1_200)) hP hD [] [0] rfl rfl (by decide) (by decide) hk1 hFc hP1 hD1
        generalize H1 = H at hP hS ⊢
        have hP : va_P (dC, dI) vwCl ([(q_1, .inl (cI, 5, .inl (zf g)))] ++ (pq_WD cI cZ cM cT hh ms gv tn tb κ1_200)) H := hP
        have hD : va_D A ([(q_1, .inl (cI, 5, .inl (zf g)))] ++ (pq_WD cI cZ cM cT hh ms gv tn tb κ1_200)) := hD
        refine W.widen (k := 1) (n := 5) (Nat.le_of_ble_eq_true rfl) (Nat.le_of_ble_eq_true rfl) ?_
        obtain rfl : r_199 = zi (pq_om T kk ka kb (5 : Int)) := hw
        refine pz_top (y := zi (pq_ways T)) (congrArg zi (rfl)) ?_
        refine lv_istore (lv' := [(8, .int (zi (pq_ways T))), (7, .int (zi 1)), (5, .int (zi (pq_n T))), (4, .int (zi kk)), (0, .ref hh), (1, .ref q_1), (2, .int (zi e9)), (3, .int (zi j)), (6, .int (zi q))]) hx hb dL_isSo_104 hl (by decide) rfl (fun ls hl => ?_)
        refine lv_aload_n hx hb dL_isSo_106 rfl (lv_at hl 5 rfl) ?_
        refine lv_iload hx hb dL_isSo_107 (lv_at hl 3 rfl) ?_
        refine lv_iconst (v := zi 1) hx hb dL_isSo_109 (by decide) ?_
        refine pz_iadd hx hb dL_isSo_110 ?_
        refine lv_dup2_11 hx hb dL_isSo_111 rfl rfl ?_
        refine pz_iald hx hb hK hP 0 0 rfl rfl (i := kk + 1) (by omega) dL_isSo_112 ?_
        refine lv_iconst (v := zi 1) hx hb dL_isSo_113 (by decide) ?_
        refine pz_iadd hx hb dL_isSo_114 ?_
        refine pz_iast hx hb hK hP hD hS 0 0 rfl rfl (i := kk + 1) (x := (g (kk + 1).toNat) + 1) (by omega) dL_isSo_115 (fun H locs hP hD hS => ?_)
        have hP : va_P (dC, dI) vwCl ([(q_1, .inl (cI, 5, .inl (zf (pz_u g (kk + 1).toNat ((g (kk + 1).toNat) + 1)))))] ++ (pq_WD cI cZ cM cT hh ms gv tn tb κ1_200)) H := hP
        have hD : va_D A ([(q_1, .inl (cI, 5, .inl (zf (pz_u g (kk + 1).toNat ((g (kk + 1).toNat) + 1)))))] ++ (pq_WD cI cZ cM cT hh ms gv tn tb κ1_200)) := hD
        refine lv_iload_n hx hb dL_isSo_116 rfl (lv_at hl 6 rfl) ?_
        refine lv_iload hx hb dL_isSo_117 (lv_at hl 8 rfl) ?_
        refine pz_iadd hx hb dL_isSo_119 ?_
        refine lv_istore_n (lv' := [(2, .int (zi (e9 + q))), (8, .int (zi (pq_ways T))), (7, .int (zi 1)), (5, .int (zi (pq_n T))), (4, .int (zi kk)), (0, .ref hh), (1, .ref q_1), (3, .int (zi j)), (6, .int (zi q))]) hx hb dL_isSo_120 rfl hl (by decide) rfl (fun ls hl => ?_)
        refine lv_aload_n hx hb dL_isSo_121 rfl (lv_at hl 5 rfl) ?_
        refine lv_iload_n hx hb dL_isSo_122 rfl (lv_at hl 7 rfl) ?_
        refine lv_iconst (v := zi 1) hx hb dL_isSo_123 (by decide) ?_
        have hPc := hP.part (cx := []) [] rfl
        have hDc := hD.part (cx := []) [] (by decide) rfl
        have hFc := va_freeP (cx := []) hD hS hA [] rfl
        refine va_calli (va_runV (As := [.int (zi j), .int (zi 1)]) (rest := []) ⟨hx, hb, hml, hown, hts⟩ (c_X7_ofMachine l dC dI cI cZ cM cT H.size hh ms gv tn tb κ1_200 j am aw av ax T kk ka kb 1 (by first | assumption | omega | rfl) hz_201 (by first | assumption | omega | rfl) hμ (by first | assumption | omega | rfl)) (cwV 2 hts (goodIn_of _ (by decide +kernel)) rfl rfl rfl (by decide +kernel) ⟨Nat.le_of_ble_eq_true rfl, Nat.le_of_ble_eq_true rfl⟩) ⟨fun a U g mk q => by obtain ⟨q0, q1, qP, qK, qD⟩ := q; exact ⟨q0, q1, qP, va_K.moved (u := U) (U := U.calling g mk a) (Vm.Alike.refl U.vm) qK, qD⟩, va_recv hK hPc (ci := 6) (q0 := 0) rfl rfl, fun U hU hW => ⟨rfl, by rw [hU], by rw [hU]; exact hPc, va_K.moved hW.alike hK, hDc.weaken (fun _ _ _ _ => trivial)⟩⟩ rfl rfl hl.1 rfl (lv_room (Nat.le_of_ble_eq_true rfl)) dL_isSo_124 ⟨Nat.le_of_ble_eq_true rfl, Nat.le_of_ble_eq_true rfl⟩) hS (fun q _ h => hFc q h) hFc (fun r_202 u t H1 locs ht hvm hw hB hz1 hk1 hS => ?_)
        obtain ⟨κ1_203, hz_204, hP1, hK1, hD1⟩ := hB
        rw [ht] at hP1
        obtain ⟨hP, hD⟩ := va_joinP (wr := [(q_1, .inl (cI, 5, .inl (zf (pz_u g (kk + 1).toNat ((g (kk + 1).toNat) + 1)))))]) (rx := []) (pl1 := (pq_WD cI cZ cM cT hh ms gv tn tb κ1_203)) hP hD [] [0] rfl rfl (by decide) (by decide) hk1 hFc hP1 hD1
        generalize H1 = H at hP hS ⊢
        have hP : va_P (dC, dI) vwCl ([(q_1, .inl (cI, 5, .inl (zf (pz_u g (kk + 1).toNat ((g (kk + 1).toNat) + 1)))))] ++ (pq_WD cI cZ cM cT hh ms gv tn tb κ1_203)) H := hP
        have hD : va_D A ([(q_1, .inl (cI, 5, .inl (zf (pz_u g (kk + 1).toNat ((g (kk + 1).toNat) + 1)))))] ++ (pq_WD cI cZ cM cT hh ms gv tn tb κ1_203)) := hD
        refine W.widen (k := 1) (n := 5) (Nat.le_of_ble_eq_true rfl) (Nat.le_of_ble_eq_true rfl) ?_
        obtain rfl : r_202 = zi (pq_om T kk ka kb (1 : Int)) := hw
        refine pz_top (y := zi (pq_ce T (2 * pq_n T).toNat)) (congrArg zi (rfl)) ?_
        refine lv_iload hx hb dL_isSo_127 (lv_at hl 8 rfl) ?_
        refine pz_icmp_ne (tgt := 173) hx hb (by omega) dL_isSo_129 (by decide) (fun c_205 => ?_) (fun c_205 => ?_)
        · exact (show False by omega).elim
        · refine lv_iload hx hb dL_isSo_132 (lv_at hl 1 rfl) ?_
          refine pz_if_eq (tgt := 175) hx hb (by omega) dL_isSo_134 (by decide) (fun c_206 => ?_) (fun c_206 => ?_)
          · refine lv_iload hx hb dL_isSo_175 (lv_at hl 4 rfl) ?_
            refine pz_if_lt (tgt := 195) hx hb (by omega) dL_isSo_177 (by decide) (fun c_207 => ?_) (fun c_207 => ?_)
            · refine lv_iload hx hb dL_isSo_195 (lv_at hl 4 rfl) ?_
              refine pz_if_lt (tgt := 205) hx hb (by omega) dL_isSo_197 (by decide) (fun c_208 => ?_) (fun c_208 => ?_)
              · refine lv_iload hx hb dL_isSo_205 (lv_at hl 4 rfl) ?_
                refine pz_if_ge (tgt := 214) hx hb (by omega) dL_isSo_207 (by decide) (fun c_209 => ?_) (fun c_209 => ?_)
                · refine lv_iconst (v := zi 0) hx hb dL_isSo_214 (by decide) ?_
                  refine lv_aload_n hx hb dL_isSo_215 rfl (lv_at hl 5 rfl) ?_
                  refine lv_iload_n hx hb dL_isSo_216 rfl (lv_at hl 7 rfl) ?_
                  refine lv_iconst (v := zi 3) hx hb dL_isSo_217 (by decide) ?_
                  have hPc := hP.part (cx := []) [] rfl
                  have hDc := hD.part (cx := []) [] (by decide) rfl
                  have hFc := va_freeP (cx := []) hD hS hA [] rfl
                  refine va_calli (va_runV (As := [.int (zi j), .int (zi 3)]) (rest := [.int (zi 0)]) ⟨hx, hb, hml, hown, hts⟩ (c_X7_ofMachine l dC dI cI cZ cM cT H.size hh ms gv tn tb κ1_203 j am aw av ax T kk ka kb 3 (by first | assumption | omega | rfl) hz_204 (by first | assumption | omega | rfl) hμ (by first | assumption | omega | rfl)) (cwV 2 hts (goodIn_of _ (by decide +kernel)) rfl rfl rfl (by decide +kernel) ⟨Nat.le_of_ble_eq_true rfl, Nat.le_of_ble_eq_true rfl⟩) ⟨fun a U g mk q => by obtain ⟨q0, q1, qP, qK, qD⟩ := q; exact ⟨q0, q1, qP, va_K.moved (u := U) (U := U.calling g mk a) (Vm.Alike.refl U.vm) qK, qD⟩, va_recv hK hPc (ci := 6) (q0 := 0) rfl rfl, fun U hU hW => ⟨rfl, by rw [hU], by rw [hU]; exact hPc, va_K.moved hW.alike hK, hDc.weaken (fun _ _ _ _ => trivial)⟩⟩ rfl rfl hl.1 rfl (lv_room (Nat.le_of_ble_eq_true rfl)) dL_isSo_218 ⟨Nat.le_of_ble_eq_true rfl, Nat.le_of_ble_eq_true rfl⟩) hS (fun q _ h => hFc q h) hFc (fun r_210 u t H1 locs ht hvm hw hB hz1 hk1 hS => ?_)
                  obtain ⟨κ1_211, hz_212, hP1, hK1, hD1⟩ := hB
                  rw [ht] at hP1
                  obtain ⟨hP, hD⟩ := va_joinP (wr := [(q_1, .inl (cI, 5, .inl (zf (pz_u g (kk + 1).toNat ((g (kk + 1).toNat) + 1)))))]) (rx := []) (pl1 := (pq_WD cI cZ cM cT hh ms gv tn tb κ1_211)) hP hD [] [0] rfl rfl (by decide) (by decide) hk1 hFc hP1 hD1
                  generalize H1 = H at hP hS ⊢
                  have hP : va_P (dC, dI) vwCl ([(q_1, .inl (cI, 5, .inl (zf (pz_u g (kk + 1).toNat ((g (kk + 1).toNat) + 1)))))] ++ (pq_WD cI cZ cM cT hh ms gv tn tb κ1_211)) H := hP
                  have hD : va_D A ([(q_1, .inl (cI, 5, .inl (zf (pz_u g (kk + 1).toNat ((g (kk + 1).toNat) + 1)))))] ++ (pq_WD cI cZ cM cT hh ms gv tn tb κ1_211)) := hD
                  refine W.widen (k := 1) (n := 5) (Nat.le_of_ble_eq_true rfl) (Nat.le_of_ble_eq_true rfl) ?_
                  obtain rfl : r_210 = zi (pq_om T kk ka kb (3 : Int)) := hw
                  refine pz_top (y := zi ka) (congrArg zi (rfl)) ?_
                  refine pz_if_ge (tgt := 228) hx hb (by omega) dL_isSo_221 (by decide) (fun c_213 => ?_) (fun c_213 => ?_)
                  · refine lv_iconst (v := zi 0) hx hb dL_isSo_228 (by decide) ?_
                    refine pz_icmp_ne (tgt := 254) hx hb (by omega) dL_isSo_229 (by decide) (fun c_214 => ?_) (fun c_214 => ?_)
                    · exact absurd c_214 (by omega)
                    · refine lv_iload hx hb dL_isSo_232 (lv_at hl 2 rfl) ?_
                      refine pz_if_eq (tgt := 256) hx hb (by omega) dL_isSo_234 (by decide) (fun c_215 => ?_) (fun c_215 => ?_)
                      · exact absurd c_215 (by omega)
                      · refine lv_aload_n hx hb dL_isSo_237 rfl (lv_at hl 5 rfl) ?_
                        refine lv_iload_n hx hb dL_isSo_238 rfl (lv_at hl 7 rfl) ?_
                        refine lv_bipush (v := zi 6) hx hb dL_isSo_239 (by decide) ?_
                        have hPc := hP.part (cx := []) [] rfl
                        have hDc := hD.part (cx := []) [] (by decide) rfl
                        have hFc := va_freeP (cx := []) hD hS hA [] rfl
                        refine va_calli (va_runV (As := [.int (zi j), .int (zi 6)]) (rest := []) ⟨hx, hb, hml, hown, hts⟩ (c_X7_ofMachine l dC dI cI cZ cM cT H.size hh ms gv tn tb κ1_211 j am aw av ax T kk ka kb 6 (by first | assumption | omega | rfl) hz_212 (by first | assumption | omega | rfl) hμ (by first | assumption | omega | rfl)) (cwV 2 hts (goodIn_of _ (by decide +kernel)) rfl rfl rfl (by decide +kernel) ⟨Nat.le_of_ble_eq_true rfl, Nat.le_of_ble_eq_true rfl⟩) ⟨fun a U g mk q => by obtain ⟨q0, q1, qP, qK, qD⟩ := q; exact ⟨q0, q1, qP, va_K.moved (u := U) (U := U.calling g mk a) (Vm.Alike.refl U.vm) qK, qD⟩, va_recv hK hPc (ci := 6) (q0 := 0) rfl rfl, fun U hU hW => ⟨rfl, by rw [hU], by rw [hU]; exact hPc, va_K.moved hW.alike hK, hDc.weaken (fun _ _ _ _ => trivial)⟩⟩ rfl rfl hl.1 rfl (lv_room (Nat.le_of_ble_eq_true rfl)) dL_isSo_241 ⟨Nat.le_of_ble_eq_true rfl, Nat.le_of_ble_eq_true rfl⟩) hS (fun q _ h => hFc q h) hFc (fun r_216 u t H1 locs ht hvm hw hB hz1 hk1 hS => ?_)
                        obtain ⟨κ1_217, hz_218, hP1, hK1, hD1⟩ := hB
                        rw [ht] at hP1
                        obtain ⟨hP, hD⟩ := va_joinP (wr := [(q_1, .inl (cI, 5, .inl (zf (pz_u g (kk + 1).toNat ((g (kk + 1).toNat) + 1)))))]) (rx := []) (pl1 := (pq_WD cI cZ cM cT hh ms gv tn tb κ1_217)) hP hD [] [0] rfl rfl (by decide) (by decide) hk1 hFc hP1 hD1
                        generalize H1 = H at hP hS ⊢
                        have hP : va_P (dC, dI) vwCl ([(q_1, .inl (cI, 5, .inl (zf (pz_u g (kk + 1).toNat ((g (kk + 1).toNat) + 1)))))] ++ (pq_WD cI cZ cM cT hh ms gv tn tb κ1_217)) H := hP
                        have hD : va_D A ([(q_1, .inl (cI, 5, .inl (zf (pz_u g (kk + 1).toNat ((g (kk + 1).toNat) + 1)))))] ++ (pq_WD cI cZ cM cT hh ms gv tn tb κ1_217)) := hD
                        refine W.widen (k := 1) (n := 5) (Nat.le_of_ble_eq_true rfl) (Nat.le_of_ble_eq_true rfl) ?_
                        obtain rfl : r_216 = zi (pq_om T kk ka kb (6 : Int)) := hw
                        refine pz_top (y := zi (pq_as T 6)) (congrArg zi (rfl)) ?_
                        refine lv_aload_n hx hb dL_isSo_244 rfl (lv_at hl 5 rfl) ?_
                        refine lv_iload_n hx hb dL_isSo_245 rfl (lv_at hl 7 rfl) ?_
                        refine lv_bipush (v := zi 7) hx hb dL_isSo_246 (by decide) ?_
                        have hPc := hP.part (cx := []) [] rfl
                        have hDc := hD.part (cx := []) [] (by decide) rfl
                        have hFc := va_freeP (cx := []) hD hS hA [] rfl
                        refine va_calli (va_runV (As := [.int (zi j), .int (zi 7)]) (rest := [.int (zi (pq_as T 6))]) ⟨hx, hb, hml, hown, hts⟩ (c_X7_ofMachine l dC dI cI cZ cM cT H.size hh ms gv tn tb κ1_217 j am aw av ax T kk ka kb 7 (by first | assumption | omega | rfl) hz_218 (by first | assumption | omega | rfl) hμ (by first | assumption | omega | rfl)) (cwV 2 hts (goodIn_of _ (by decide +kernel)) rfl rfl rfl (by decide +kernel) ⟨Nat.le_of_ble_eq_true rfl, Nat.le_of_ble_eq_true rfl⟩) ⟨fun a U g mk q => by obtain ⟨q0, q1, qP, qK, qD⟩ := q; exact ⟨q0, q1, qP, va_K.moved (u := U) (U := U.calling g mk a) (Vm.Alike.refl U.vm) qK, qD⟩, va_recv hK hPc (ci := 6) (q0 := 0) rfl rfl, fun U hU hW => ⟨rfl, by rw [hU], by rw [hU]; exact hPc, va_K.moved hW.alike hK, hDc.weaken (fun _ _ _ _ => trivial)⟩⟩ rfl rfl hl.1 rfl (lv_room (Nat.le_of_ble_eq_true rfl)) dL_isSo_248 ⟨Nat.le_of_ble_eq_true rfl, Nat.le_of_ble_eq_true rfl⟩) hS (fun q _ h => hFc q h) hFc (fun r_219 u t H1 locs ht hvm hw hB hz1 hk1 hS => ?_)
                        obtain ⟨κ1_220, hz_221, hP1, hK1, hD1⟩ := hB
                        rw [ht] at hP1
                        obtain ⟨hP, hD⟩ := va_joinP (wr := [(q_1, .inl (cI, 5, .inl (zf (pz_u g (kk + 1).toNat ((g (kk + 1).toNat) + 1)))))]) (rx := []) (pl1 := (pq_WD cI cZ cM cT hh ms gv tn tb κ1_220)) hP hD [] [0] rfl rfl (by decide) (by decide) hk1 hFc hP1 hD1
                        generalize H1 = H at hP hS ⊢
                        have hP : va_P (dC, dI) vwCl ([(q_1, .inl (cI, 5, .inl (zf (pz_u g (kk + 1).toNat ((g (kk + 1).toNat) + 1)))))] ++ (pq_WD cI cZ cM cT hh ms gv tn tb κ1_220)) H := hP
                        have hD : va_D A ([(q_1, .inl (cI, 5, .inl (zf (pz_u g (kk + 1).toNat ((g (kk + 1).toNat) + 1)))))] ++ (pq_WD cI cZ cM cT hh ms gv tn tb κ1_220)) := hD
                        refine W.widen (k := 1) (n := 5) (Nat.le_of_ble_eq_true rfl) (Nat.le_of_ble_eq_true rfl) ?_
                        obtain rfl : r_219 = zi (pq_om T kk ka kb (7 : Int)) := hw
                        refine pz_top (y := zi (pq_as T 7)) (congrArg zi (rfl)) ?_
                        refine pz_icmp_le (tgt := 256) hx hb (by omega) dL_isSo_251 (by decide) (fun c_222 => ?_) (fun c_222 => ?_)
                        · have hg2 := pq_kinds hj.1 hμ (show -1 ≤ kk ∧ kk ≤ 3 by omega) hg
                          have he2 : e9 + q = pq_cy (ms.take (j + 1).toNat) := by rw [pq_cy_1 hj.1 hμ, ← he, hq2]
                          refine pz_iinc (lv' := [(3, .int (zi (j + 1))), (2, .int (zi (e9 + q))), (8, .int (zi (pq_ways T))), (7, .int (zi 1)), (5, .int (zi (pq_n T))), (4, .int (zi kk)), (0, .ref hh), (1, .ref q_1), (6, .int (zi q))]) hx hb dL_isSo_256 hl (k := 7) rfl (by decide) rfl (fun ls hl => ?_)
                          refine lv_goto (tgt := 8) hx hb dL_isSo_259 (by decide) ?_
                          exact ih_8 _ _ _ _ ⟨pz_u g (kk + 1).toNat ((g (kk + 1).toNat) + 1), e9 + q, j + 1, κ1_220, rfl, (by first | assumption | omega | rfl), hg2, he2, hz_221, hP, hD, hS, lv_sub hl [6, 7, 1, 0] rfl⟩ (by omega)
                        · exact (show False by omega).elim
                  · refine lv_iconst (v := zi 1) hx hb dL_isSo_224 (by decide) ?_
                    refine lv_goto (tgt := 229) hx hb dL_isSo_225 (by decide) ?_
                    refine pz_icmp_ne (tgt := 254) hx hb (by omega) dL_isSo_229 (by decide) (fun c_223 => ?_) (fun c_223 => ?_)
                    · exact (show False by omega).elim
                    · exact absurd c_223 (by omega)
                · refine lv_iconst (v := zi 1) hx hb dL_isSo_210 (by decide) ?_
                  refine lv_goto (tgt := 215) hx hb dL_isSo_211 (by decide) ?_
                  refine lv_aload_n hx hb dL_isSo_215 rfl (lv_at hl 5 rfl) ?_
                  refine lv_iload_n hx hb dL_isSo_216 rfl (lv_at hl 7 rfl) ?_
                  refine lv_iconst (v := zi 3) hx hb dL_isSo_217 (by decide) ?_
                  have hPc := hP.part (cx := []) [] rfl
                  have hDc := hD.part (cx := []) [] (by decide) rfl
                  have hFc := va_freeP (cx := []) hD hS hA [] rfl
                  refine va_calli (va_runV (As := [.int (zi j), .int (zi 3)]) (rest := [.int (zi 1)]) ⟨hx, hb, hml, hown, hts⟩ (c_X7_ofMachine l dC dI cI cZ cM cT H.size hh ms gv tn tb κ1_203 j am aw av ax T kk ka kb 3 (by first | assumption | omega | rfl) hz_204 (by first | assumption | omega | rfl) hμ (by first | assumption | omega | rfl)) (cwV 2 hts (goodIn_of _ (by decide +kernel)) rfl rfl rfl (by decide +kernel) ⟨Nat.le_of_ble_eq_true rfl, Nat.le_of_ble_eq_true rfl⟩) ⟨fun a U g mk q => by obtain ⟨q0, q1, qP, qK, qD⟩ := q; exact ⟨q0, q1, qP, va_K.moved (u := U) (U := U.calling g mk a) (Vm.Alike.refl U.vm) qK, qD⟩, va_recv hK hPc (ci := 6) (q0 := 0) rfl rfl, fun U hU hW => ⟨rfl, by rw [hU], by rw [hU]; exact hPc, va_K.moved hW.alike hK, hDc.weaken (fun _ _ _ _ => trivial)⟩⟩ rfl rfl hl.1 rfl (lv_room (Nat.le_of_ble_eq_true rfl)) dL_isSo_218 ⟨Nat.le_of_ble_eq_true rfl, Nat.le_of_ble_eq_true rfl⟩) hS (fun q _ h => hFc q h) hFc (fun r_224 u t H1 locs ht hvm hw hB hz1 hk1 hS => ?_)
                  obtain ⟨κ1_225, hz_226, hP1, hK1, hD1⟩ := hB
                  rw [ht] at hP1
                  obtain ⟨hP, hD⟩ := va_joinP (wr := [(q_1, .inl (cI, 5, .inl (zf (pz_u g (kk + 1).toNat ((g (kk + 1).toNat) + 1)))))]) (rx := []) (pl1 := (pq_WD cI cZ cM cT hh ms gv tn tb κ1_225)) hP hD [] [0] rfl rfl (by decide) (by decide) hk1 hFc hP1 hD1
                  generalize H1 = H at hP hS ⊢
                  have hP : va_P (dC, dI) vwCl ([(q_1, .inl (cI, 5, .inl (zf (pz_u g (kk + 1).toNat ((g (kk + 1).toNat) + 1)))))] ++ (pq_WD cI cZ cM cT hh ms gv tn tb κ1_225)) H := hP
                  have hD : va_D A ([(q_1, .inl (cI, 5, .inl (zf (pz_u g (kk + 1).toNat ((g (kk + 1).toNat) + 1)))))] ++ (pq_WD cI cZ cM cT hh ms gv tn tb κ1_225)) := hD
                  refine W.widen (k := 1) (n := 5) (Nat.le_of_ble_eq_true rfl) (Nat.le_of_ble_eq_true rfl) ?_
                  obtain rfl : r_224 = zi (pq_om T kk ka kb (3 : Int)) := hw
                  refine pz_top (y := zi ka) (congrArg zi (rfl)) ?_
                  refine pz_if_ge (tgt := 228) hx hb (by omega) dL_isSo_221 (by decide) (fun c_227 => ?_) (fun c_227 => ?_)
                  · refine lv_iconst (v := zi 0) hx hb dL_isSo_228 (by decide) ?_
                    refine pz_icmp_ne (tgt := 254) hx hb (by omega) dL_isSo_229 (by decide) (fun c_228 => ?_) (fun c_228 => ?_)
                    · exact (show False by omega).elim
                    · exact absurd c_228 (by omega)
                  · refine lv_iconst (v := zi 1) hx hb dL_isSo_224 (by decide) ?_
                    refine lv_goto (tgt := 229) hx hb dL_isSo_225 (by decide) ?_
                    refine pz_icmp_ne (tgt := 254) hx hb (by omega) dL_isSo_229 (by decide) (fun c_229 => ?_) (fun c_229 => ?_)
                    · exact absurd c_229 (by omega)
                    · refine lv_iload hx hb dL_isSo_232 (lv_at hl 2 rfl) ?_
                      refine pz_if_eq (tgt := 256) hx hb (by omega) dL_isSo_234 (by decide) (fun c_230 => ?_) (fun c_230 => ?_)
                      · exact absurd c_230 (by omega)
                      · refine lv_aload_n hx hb dL_isSo_237 rfl (lv_at hl 5 rfl) ?_
                        refine lv_iload_n hx hb dL_isSo_238 rfl (lv_at hl 7 rfl) ?_
                        refine lv_bipush (v := zi 6) hx hb dL_isSo_239 (by decide) ?_
                        have hPc := hP.part (cx := []) [] rfl
                        have hDc := hD.part (cx := []) [] (by decide) rfl
                        have hFc := va_freeP (cx := []) hD hS hA [] rfl
                        refine va_calli (va_runV (As := [.int (zi j), .int (zi 6)]) (rest := []) ⟨hx, hb, hml, hown, hts⟩ (c_X7_ofMachine l dC dI cI cZ cM cT H.size hh ms gv tn tb κ1_225 j am aw av ax T kk ka kb 6 (by first | assumption | omega | rfl) hz_226 (by first | assumption | omega | rfl) hμ (by first | assumption | omega | rfl)) (cwV 2 hts (goodIn_of _ (by decide +kernel)) rfl rfl rfl (by decide +kernel) ⟨Nat.le_of_ble_eq_true rfl, Nat.le_of_ble_eq_true rfl⟩) ⟨fun a U g mk q => by obtain ⟨q0, q1, qP, qK, qD⟩ := q; exact ⟨q0, q1, qP, va_K.moved (u := U) (U := U.calling g mk a) (Vm.Alike.refl U.vm) qK, qD⟩, va_recv hK hPc (ci := 6) (q0 := 0) rfl rfl, fun U hU hW => ⟨rfl, by rw [hU], by rw [hU]; exact hPc, va_K.moved hW.alike hK, hDc.weaken (fun _ _ _ _ => trivial)⟩⟩ rfl rfl hl.1 rfl (lv_room (Nat.le_of_ble_eq_true rfl)) dL_isSo_241 ⟨Nat.le_of_ble_eq_true rfl, Nat.le_of_ble_eq_true rfl⟩) hS (fun q _ h => hFc q h) hFc (fun r_231 u t H1 locs ht hvm hw hB hz1 hk1 hS => ?_)
                        obtain ⟨κ1_232, hz_233, hP1, hK1, hD1⟩ := hB
                        rw [ht] at hP1
                        obtain ⟨hP, hD⟩ := va_joinP (wr := [(q_1, .inl (cI, 5, .inl (zf (pz_u g (kk + 1).toNat ((g (kk + 1).toNat) + 1)))))]) (rx := []) (pl1 := (pq_WD cI cZ cM cT hh ms gv tn tb κ1_232)) hP hD [] [0] rfl rfl (by decide) (by decide) hk1 hFc hP1 hD1
                        generalize H1 = H at hP hS ⊢
                        have hP : va_P (dC, dI) vwCl ([(q_1, .inl (cI, 5, .inl (zf (pz_u g (kk + 1).toNat ((g (kk + 1).toNat) + 1)))))] ++ (pq_WD cI cZ cM cT hh ms gv tn tb κ1_232)) H := hP
                        have hD : va_D A ([(q_1, .inl (cI, 5, .inl (zf (pz_u g (kk + 1).toNat ((g (kk + 1).toNat) + 1)))))] ++ (pq_WD cI cZ cM cT hh ms gv tn tb κ1_232)) := hD
                        refine W.widen (k := 1) (n := 5) (Nat.le_of_ble_eq_true rfl) (Nat.le_of_ble_eq_true rfl) ?_
                        obtain rfl : r_231 = zi (pq_om T kk ka kb (6 : Int)) := hw
                        refine pz_top (y := zi (pq_as T 6)) (congrArg zi (rfl)) ?_
                        refine lv_aload_n hx hb dL_isSo_244 rfl (lv_at hl 5 rfl) ?_
                        refine lv_iload_n hx hb dL_isSo_245 rfl (lv_at hl 7 rfl) ?_
                        refine lv_bipush (v := zi 7) hx hb dL_isSo_246 (by decide) ?_
                        have hPc := hP.part (cx := []) [] rfl
                        have hDc := hD.part (cx := []) [] (by decide) rfl
                        have hFc := va_freeP (cx := []) hD hS hA [] rfl
                        refine va_calli (va_runV (As := [.int (zi j), .int (zi 7)]) (rest := [.int (zi (pq_as T 6))]) ⟨hx, hb, hml, hown, hts⟩ (c_X7_ofMachine l dC dI cI cZ cM cT H.size hh ms gv tn tb κ1_232 j am aw av ax T kk ka kb 7 (by first | assumption | omega | rfl) hz_233 (by first | assumption | omega | rfl) hμ (by first | assumption | omega | rfl)) (cwV 2 hts (goodIn_of _ (by decide +kernel)) rfl rfl rfl (by decide +kernel) ⟨Nat.le_of_ble_eq_true rfl, Nat.le_of_ble_eq_true rfl⟩) ⟨fun a U g mk q => by obtain ⟨q0, q1, qP, qK, qD⟩ := q; exact ⟨q0, q1, qP, va_K.moved (u := U) (U := U.calling g mk a) (Vm.Alike.refl U.vm) qK, qD⟩, va_recv hK hPc (ci := 6) (q0 := 0) rfl rfl, fun U hU hW => ⟨rfl, by rw [hU], by rw [hU]; exact hPc, va_K.moved hW.alike hK, hDc.weaken (fun _ _ _ _ => trivial)⟩⟩ rfl rfl hl.1 rfl (lv_room (Nat.le_of_ble_eq_true rfl)) dL_isSo_248 ⟨Nat.le_of_ble_eq_true rfl, Nat.le_of_ble_eq_true rfl⟩) hS (fun q _ h => hFc q h) hFc (fun r_234 u t H1 locs ht hvm hw hB hz1 hk1 hS => ?_)
                        obtain ⟨κ1_235, hz_236, hP1, hK1, hD1⟩ := hB
                        rw [ht] at hP1
                        obtain ⟨hP, hD⟩ := va_joinP (wr := [(q_1, .inl (cI, 5, .inl (zf (pz_u g (kk + 1).toNat ((g (kk + 1).toNat) + 1)))))]) (rx := []) (pl1 := (pq_WD cI cZ cM cT hh ms gv tn tb κ1_235)) hP hD [] [0] rfl rfl (by decide) (by decide) hk1 hFc hP1 hD1
                        generalize H1 = H at hP hS ⊢
                        have hP : va_P (dC, dI) vwCl ([(q_1, .inl (cI, 5, .inl (zf (pz_u g (kk + 1).toNat ((g (kk + 1).toNat) + 1)))))] ++ (pq_WD cI cZ cM cT hh ms gv tn tb κ1_235)) H := hP
                        have hD : va_D A ([(q_1, .inl (cI, 5, .inl (zf (pz_u g (kk + 1).toNat ((g (kk + 1).toNat) + 1)))))] ++ (pq_WD cI cZ cM cT hh ms gv tn tb κ1_235)) := hD
                        refine W.widen (k := 1) (n := 5) (Nat.le_of_ble_eq_true rfl) (Nat.le_of_ble_eq_true rfl) ?_
                        obtain rfl : r_234 = zi (pq_om T kk ka kb (7 : Int)) := hw
                        refine pz_top (y := zi (pq_as T 7)) (congrArg zi (rfl)) ?_
                        refine pz_icmp_le (tgt := 256) hx hb (by omega) dL_isSo_251 (by decide) (fun c_237 => ?_) (fun c_237 => ?_)
                        · have hg2 := pq_kinds hj.1 hμ (show -1 ≤ kk ∧ kk ≤ 3 by omega) hg
                          have he2 : e9 + q = pq_cy (ms.take (j + 1).toNat) := by rw [pq_cy_1 hj.1 hμ, ← he, hq2]
                          refine pz_iinc (lv' := [(3, .int (zi (j + 1))), (2, .int (zi (e9 + q))), (8, .int (zi (pq_ways T))), (7, .int (zi 1)), (5, .int (zi (pq_n T))), (4, .int (zi kk)), (0, .ref hh), (1, .ref q_1), (6, .int (zi q))]) hx hb dL_isSo_256 hl (k := 7) rfl (by decide) rfl (fun ls hl => ?_)
                          refine lv_goto (tgt := 8) hx hb dL_isSo_259 (by decide) ?_
                          exact ih_8 _ _ _ _ ⟨pz_u g (kk + 1).toNat ((g (kk + 1).toNat) + 1), e9 + q, j + 1, κ1_235, rfl, (by first | assumption | omega | rfl), hg2, he2, hz_236, hP, hD, hS, lv_sub hl [6, 7, 1, 0] rfl⟩ (by omega)
                        · exact (show False by omega).elim
              · refine lv_iload hx hb dL_isSo_200 (lv_at hl 1 rfl) ?_
                refine pz_if_gt (tgt := 254) hx hb (by omega) dL_isSo_202 (by decide) (fun c_238 => ?_) (fun c_238 => ?_)
                · exact (show False by omega).elim
                · refine lv_iload hx hb dL_isSo_205 (lv_at hl 4 rfl) ?_
                  refine pz_if_ge (tgt := 214) hx hb (by omega) dL_isSo_207 (by decide) (fun c_239 => ?_) (fun c_239 => ?_)
                  · refine lv_iconst (v := zi 0) hx hb dL_isSo_214 (by decide) ?_
                    refine lv_aload_n hx hb dL_isSo_215 rfl (lv_at hl 5 rfl) ?_
                    refine lv_iload_n hx hb dL_isSo_216 rfl (lv_at hl 7 rfl) ?_
                    refine lv_iconst (v := zi 3) hx hb dL_isSo_217 (by decide) ?_
                    have hPc := hP.part (cx := []) [] rfl
                    have hDc := hD.part (cx := []) [] (by decide) rfl
                    have hFc := va_freeP (cx := []) hD hS hA [] rfl
                    refine va_calli (va_runV (As := [.int (zi j), .int (zi 3)]) (rest := [.int (zi 0)]) ⟨hx, hb, hml, hown, hts⟩ (c_X7_ofMachine l dC dI cI cZ cM cT H.size hh ms gv tn tb κ1_203 j am aw av ax T kk ka kb 3 (by first | assumption | omega | rfl) hz_204 (by first | assumption | omega | rfl) hμ (by first | assumption | omega | rfl)) (cwV 2 hts (goodIn_of _ (by decide +kernel)) rfl rfl rfl (by decide +kernel) ⟨Nat.le_of_ble_eq_true rfl, Nat.le_of_ble_eq_true rfl⟩) ⟨fun a U g mk q => by obtain ⟨q0, q1, qP, qK, qD⟩ := q; exact ⟨q0, q1, qP, va_K.moved (u := U) (U := U.calling g mk a) (Vm.Alike.refl U.vm) qK, qD⟩, va_recv hK hPc (ci := 6) (q0 := 0) rfl rfl, fun U hU hW => ⟨rfl, by rw [hU], by rw [hU]; exact hPc, va_K.moved hW.alike hK, hDc.weaken (fun _ _ _ _ => trivial)⟩⟩ rfl rfl hl.1 rfl (lv_room (Nat.le_of_ble_eq_true rfl)) dL_isSo_218 ⟨Nat.le_of_ble_eq_true rfl, Nat.le_of_ble_eq_true rfl⟩) hS (fun q _ h => hFc q h) hFc (fun r_240 u t H1 locs ht hvm hw hB hz1 hk1 hS => ?_)
                    obtain ⟨κ1_241, hz_242, hP1, hK1, hD1⟩ := hB
                    rw [ht] at hP1
                    obtain ⟨hP, hD⟩ := va_joinP (wr := [(q_1, .inl (cI, 5, .inl (zf (pz_u g (kk + 1).toNat ((g (kk + 1).toNat) + 1)))))]) (rx := []) (pl1 := (pq_WD cI cZ cM cT hh ms gv tn tb κ1_241)) hP hD [] [0] rfl rfl (by decide) (by decide) hk1 hFc hP1 hD1
                    generalize H1 = H at hP hS ⊢
                    have hP : va_P (dC, dI) vwCl ([(q_1, .inl (cI, 5, .inl (zf (pz_u g (kk + 1).toNat ((g (kk + 1).toNat) + 1)))))] ++ (pq_WD cI cZ cM cT hh ms gv tn tb κ1_241)) H := hP
                    have hD : va_D A ([(q_1, .inl (cI, 5, .inl (zf (pz_u g (kk + 1).toNat ((g (kk + 1).toNat) + 1)))))] ++ (pq_WD cI cZ cM cT hh ms gv tn tb κ1_241)) := hD
                    refine W.widen (k := 1) (n := 5) (Nat.le_of_ble_eq_true rfl) (Nat.le_of_ble_eq_true rfl) ?_
                    obtain rfl : r_240 = zi (pq_om T kk ka kb (3 : Int)) := hw
                    refine pz_top (y := zi ka) (congrArg zi (rfl)) ?_
                    refine pz_if_ge (tgt := 228) hx hb (by omega) dL_isSo_221 (by decide) (fun c_243 => ?_) (fun c_243 => ?_)
                    · refine lv_iconst (v := zi 0) hx hb dL_isSo_228 (by decide) ?_
                      refine pz_icmp_ne (tgt := 254) hx hb (by omega) dL_isSo_229 (by decide) (fun c_244 => ?_) (fun c_244 => ?_)
                      · exact absurd c_244 (by omega)
                      · refine lv_iload hx hb dL_isSo_232 (lv_at hl 2 rfl) ?_
                        refine pz_if_eq (tgt := 256) hx hb (by omega) dL_isSo_234 (by decide) (fun c_245 => ?_) (fun c_245 => ?_)
                        · exact absurd c_245 (by omega)
                        · refine lv_aload_n hx hb dL_isSo_237 rfl (lv_at hl 5 rfl) ?_
                          refine lv_iload_n hx hb dL_isSo_238 rfl (lv_at hl 7 rfl) ?_
                          refine lv_bipush (v := zi 6) hx hb dL_isSo_239 (by decide) ?_
                          have hPc := hP.part (cx := []) [] rfl
                          have hDc := hD.part (cx := []) [] (by decide) rfl
                          have hFc := va_freeP (cx := []) hD hS hA [] rfl
                          refine va_calli (va_runV (As := [.int (zi j), .int (zi 6)]) (rest := []) ⟨hx, hb, hml, hown, hts⟩ (c_X7_ofMachine l dC dI cI cZ cM cT H.size hh ms gv tn tb κ1_241 j am aw av ax T kk ka kb 6 (by first | assumption | omega | rfl) hz_242 (by first | assumption | omega | rfl) hμ (by first | assumption | omega | rfl)) (cwV 2 hts (goodIn_of _ (by decide +kernel)) rfl rfl rfl (by decide +kernel) ⟨Nat.le_of_ble_eq_true rfl, Nat.le_of_ble_eq_true rfl⟩) ⟨fun a U g mk q => by obtain ⟨q0, q1, qP, qK, qD⟩ := q; exact ⟨q0, q1, qP, va_K.moved (u := U) (U := U.calling g mk a) (Vm.Alike.refl U.vm) qK, qD⟩, va_recv hK hPc (ci := 6) (q0 := 0) rfl rfl, fun U hU hW => ⟨rfl, by rw [hU], by rw [hU]; exact hPc, va_K.moved hW.alike hK, hDc.weaken (fun _ _ _ _ => trivial)⟩⟩ rfl rfl hl.1 rfl (lv_room (Nat.le_of_ble_eq_true rfl)) dL_isSo_241 ⟨Nat.le_of_ble_eq_true rfl, Nat.le_of_ble_eq_true rfl⟩) hS (fun q _ h => hFc q h) hFc (fun r_246 u t H1 locs ht hvm hw hB hz1 hk1 hS => ?_)
                          obtain ⟨κ1_247, hz_248, hP1, hK1, hD1⟩ := hB
                          rw [ht] at hP1
                          obtain ⟨hP, hD⟩ := va_joinP (wr := [(q_1, .inl (cI, 5, .inl (zf (pz_u g (kk + 1).toNat ((g (kk + 1).toNat) + 1)))))]) (rx := []) (pl1 := (pq_WD cI cZ cM cT hh ms gv tn tb κ1_247)) hP hD [] [0] rfl rfl (by decide) (by decide) hk1 hFc hP1 hD1
                          generalize H1 = H at hP hS ⊢
                          have hP : va_P (dC, dI) vwCl ([(q_1, .inl (cI, 5, .inl (zf (pz_u g (kk + 1).toNat ((g (kk + 1).toNat) + 1)))))] ++ (pq_WD cI cZ cM cT hh ms gv tn tb κ1_247)) H := hP
                          have hD : va_D A ([(q_1, .inl (cI, 5, .inl (zf (pz_u g (kk + 1).toNat ((g (kk + 1).toNat) + 1)))))] ++ (pq_WD cI cZ cM cT hh ms gv tn tb κ1_247)) := hD
                          refine W.widen (k := 1) (n := 5) (Nat.le_of_ble_eq_true rfl) (Nat.le_of_ble_eq_true rfl) ?_
                          obtain rfl : r_246 = zi (pq_om T kk ka kb (6 : Int)) := hw
                          refine pz_top (y := zi (pq_as T 6)) (congrArg zi (rfl)) ?_
                          refine lv_aload_n hx hb dL_isSo_244 rfl (lv_at hl 5 rfl) ?_
                          refine lv_iload_n hx hb dL_isSo_245 rfl (lv_at hl 7 rfl) ?_
                          refine lv_bipush (v := zi 7) hx hb dL_isSo_246 (by decide) ?_
                          have hPc := hP.part (cx := []) [] rfl
                          have hDc := hD.part (cx := []) [] (by decide) rfl
                          have hFc := va_freeP (cx := []) hD hS hA [] rfl
                          refine va_calli (va_runV (As := [.int (zi j), .int (zi 7)]) (rest := [.int (zi (pq_as T 6))]) ⟨hx, hb, hml, hown, hts⟩ (c_X7_ofMachine l dC dI cI cZ cM cT H.size hh ms gv tn tb κ1_247 j am aw av ax T kk ka kb 7 (by first | assumption | omega | rfl) hz_248 (by first | assumption | omega | rfl) hμ (by first | assumption | omega | rfl)) (cwV 2 hts (goodIn_of _ (by decide +kernel)) rfl rfl rfl (by decide +kernel) ⟨Nat.le_of_ble_eq_true rfl, Nat.le_of_ble_eq_true rfl⟩) ⟨fun a U g mk q => by obtain ⟨q0, q1, qP, qK, qD⟩ := q; exact ⟨q0, q1, qP, va_K.moved (u := U) (U := U.calling g mk a) (Vm.Alike.refl U.vm) qK, qD⟩, va_recv hK hPc (ci := 6) (q0 := 0) rfl rfl, fun U hU hW => ⟨rfl, by rw [hU], by rw [hU]; exact hPc, va_K.moved hW.alike hK, hDc.weaken (fun _ _ _ _ => trivial)⟩⟩ rfl rfl hl.1 rfl (lv_room (Nat.le_of_ble_eq_true rfl)) dL_isSo_248 ⟨Nat.le_of_ble_eq_true rfl, Nat.le_of_ble_eq_true rfl⟩) hS (fun q _ h => hFc q h) hFc (fun r_249 u t H1 locs ht hvm hw hB hz1 hk1 hS => ?_)
                          obtain ⟨κ1_250, hz_251, hP1, hK1, hD1⟩ := hB
                          rw [ht] at hP1
                          obtain ⟨hP, hD⟩ := va_joinP (wr := [(q_1, .inl (cI, 5, .inl (zf (pz_u g (kk + 1).toNat ((g (kk + 1).toNat) + 1)))))]) (rx := []) (pl1 := (pq_WD cI cZ cM cT hh ms gv tn tb κ1_250)) hP hD [] [0] rfl rfl (by decide) (by decide) hk1 hFc hP1 hD1
                          generalize H1 = H at hP hS ⊢
                          have hP : va_P (dC, dI) vwCl ([(q_1, .inl (cI, 5, .inl (zf (pz_u g (kk + 1).toNat ((g (kk + 1).toNat) + 1)))))] ++ (pq_WD cI cZ cM cT hh ms gv tn tb κ1_250)) H := hP
                          have hD : va_D A ([(q_1, .inl (cI, 5, .inl (zf (pz_u g (kk + 1).toNat ((g (kk + 1).toNat) + 1)))))] ++ (pq_WD cI cZ cM cT hh ms gv tn tb κ1_250)) := hD
                          refine W.widen (k := 1) (n := 5) (Nat.le_of_ble_eq_true rfl) (Nat.le_of_ble_eq_true rfl) ?_
                          obtain rfl : r_249 = zi (pq_om T kk ka kb (7 : Int)) := hw
                          refine pz_top (y := zi (pq_as T 7)) (congrArg zi (rfl)) ?_
                          refine pz_icmp_le (tgt := 256) hx hb (by omega) dL_isSo_251 (by decide) (fun c_252 => ?_) (fun c_252 => ?_)
                          · have hg2 := pq_kinds hj.1 hμ (show -1 ≤ kk ∧ kk ≤ 3 by omega) hg
                            have he2 : e9 + q = pq_cy (ms.take (j + 1).toNat) := by rw [pq_cy_1 hj.1 hμ, ← he, hq2]
                            refine pz_iinc (lv' := [(3, .int (zi (j + 1))), (2, .int (zi (e9 + q))), (8, .int (zi (pq_ways T))), (7, .int (zi 1)), (5, .int (zi (pq_n T))), (4, .int (zi kk)), (0, .ref hh), (1, .ref q_1), (6, .int (zi q))]) hx hb dL_isSo_256 hl (k := 7) rfl (by decide) rfl (fun ls hl => ?_)
                            refine lv_goto (tgt := 8) hx hb dL_isSo_259 (by decide) ?_
                            exact ih_8 _ _ _ _ ⟨pz_u g (kk + 1).toNat ((g (kk + 1).toNat) + 1), e9 + q, j + 1, κ1_250, rfl, (by first | assumption | omega | rfl), hg2, he2, hz_251, hP, hD, hS, lv_sub hl [6, 7, 1, 0] rfl⟩ (by omega)
                          · exact (show False by omega).elim
                    · refine lv_iconst (v := zi 1) hx hb dL_isSo_224 (by decide) ?_
                      refine lv_goto (tgt := 229) hx hb dL_isSo_225 (by decide) ?_
                      refine pz_icmp_ne (tgt := 254) hx hb (by omega) dL_isSo_229 (by decide) (fun c_253 => ?_) (fun c_253 => ?_)
                      · exact (show False by omega).elim
                      · exact absurd c_253 (by omega)
                  · refine lv_iconst (v := zi 1) hx hb dL_isSo_210 (by decide) ?_
                    refine lv_goto (tgt := 215) hx hb dL_isSo_211 (by decide) ?_
                    refine lv_aload_n hx hb dL_isSo_215 rfl (lv_at hl 5 rfl) ?_
                    refine lv_iload_n hx hb dL_isSo_216 rfl (lv_at hl 7 rfl) ?_
                    refine lv_iconst (v := zi 3) hx hb dL_isSo_217 (by decide) ?_
                    have hPc := hP.part (cx := []) [] rfl
                    have hDc := hD.part (cx := []) [] (by decide) rfl
                    have hFc := va_freeP (cx := []) hD hS hA [] rfl
                    refine va_calli (va_runV (As := [.int (zi j), .int (zi 3)]) (rest := [.int (zi 1)]) ⟨hx, hb, hml, hown, hts⟩ (c_X7_ofMachine l dC dI cI cZ cM cT H.size hh ms gv tn tb κ1_203 j am aw av ax T kk ka kb 3 (by first | assumption | omega | rfl) hz_204 (by first | assumption | omega | rfl) hμ (by first | assumption | omega | rfl)) (cwV 2 hts (goodIn_of _ (by decide +kernel)) rfl rfl rfl (by decide +kernel) ⟨Nat.le_of_ble_eq_true rfl, Nat.le_of_ble_eq_true rfl⟩) ⟨fun a U g mk q => by obtain ⟨q0, q1, qP, qK, qD⟩ := q; exact ⟨q0, q1, qP, va_K.moved (u := U) (U := U.calling g mk a) (Vm.Alike.refl U.vm) qK, qD⟩, va_recv hK hPc (ci := 6) (q0 := 0) rfl rfl, fun U hU hW => ⟨rfl, by rw [hU], by rw [hU]; exact hPc, va_K.moved hW.alike hK, hDc.weaken (fun _ _ _ _ => trivial)⟩⟩ rfl rfl hl.1 rfl (lv_room (Nat.le_of_ble_eq_true rfl)) dL_isSo_218 ⟨Nat.le_of_ble_eq_true rfl, Nat.le_of_ble_eq_true rfl⟩) hS (fun q _ h => hFc q h) hFc (fun r_254 u t H1 locs ht hvm hw hB hz1 hk1 hS => ?_)
                    obtain ⟨κ1_255, hz_256, hP1, hK1, hD1⟩ := hB
                    rw [ht] at hP1
                    obtain ⟨hP, hD⟩ := va_joinP (wr := [(q_1, .inl (cI, 5, .inl (zf (pz_u g (kk + 1).toNat ((g (kk + 1).toNat) + 1)))))]) (rx := []) (pl1 := (pq_WD cI cZ cM cT hh ms gv tn tb κ1_255)) hP hD [] [0] rfl rfl (by decide) (by decide) hk1 hFc hP1 hD1
                    generalize H1 = H at hP hS ⊢
                    have hP : va_P (dC, dI) vwCl ([(q_1, .inl (cI, 5, .inl (zf (pz_u g (kk + 1).toNat ((g (kk + 1).toNat) + 1)))))] ++ (pq_WD cI cZ cM cT hh ms gv tn tb κ1_255)) H := hP
                    have hD : va_D A ([(q_1, .inl (cI, 5, .inl (zf (pz_u g (kk + 1).toNat ((g (kk + 1).toNat) + 1)))))] ++ (pq_WD cI cZ cM cT hh ms gv tn tb κ1_255)) := hD
                    refine W.widen (k := 1) (n := 5) (Nat.le_of_ble_eq_true rfl) (Nat.le_of_ble_eq_true rfl) ?_
                    obtain rfl : r_254 = zi (pq_om T kk ka kb (3 : Int)) := hw
                    refine pz_top (y := zi ka) (congrArg zi (rfl)) ?_
                    refine pz_if_ge (tgt := 228) hx hb (by omega) dL_isSo_221 (by decide) (fun c_257 => ?_) (fun c_257 => ?_)
                    · refine lv_iconst (v := zi 0) hx hb dL_isSo_228 (by decide) ?_
                      refine pz_icmp_ne (tgt := 254) hx hb (by omega) dL_isSo_229 (by decide) (fun c_258 => ?_) (fun c_258 => ?_)
                      · exact (show False by omega).elim
                      · exact absurd c_258 (by omega)
                    · refine lv_iconst (v := zi 1) hx hb dL_isSo_224 (by decide) ?_
                      refine lv_goto (tgt := 229) hx hb dL_isSo_225 (by decide) ?_
                      refine pz_icmp_ne (tgt := 254) hx hb (by omega) dL_isSo_229 (by decide) (fun c_259 => ?_) (fun c_259 => ?_)
                      · exact absurd c_259 (by omega)
                      · refine lv_iload hx hb dL_isSo_232 (lv_at hl 2 rfl) ?_
                        refine pz_if_eq (tgt := 256) hx hb (by omega) dL_isSo_234 (by decide) (fun c_260 => ?_) (fun c_260 => ?_)
                        · exact absurd c_260 (by omega)
                        · refine lv_aload_n hx hb dL_isSo_237 rfl (lv_at hl 5 rfl) ?_
                          refine lv_iload_n hx hb dL_isSo_238 rfl (lv_at hl 7 rfl) ?_
                          refine lv_bipush (v := zi 6) hx hb dL_isSo_239 (by decide) ?_
                          have hPc := hP.part (cx := []) [] rfl
                          have hDc := hD.part (cx := []) [] (by decide) rfl
                          have hFc := va_freeP (cx := []) hD hS hA [] rfl
                          refine va_calli (va_runV (As := [.int (zi j), .int (zi 6)]) (rest := []) ⟨hx, hb, hml, hown, hts⟩ (c_X7_ofMachine l dC dI cI cZ cM cT H.size hh ms gv tn tb κ1_255 j am aw av ax T kk ka kb 6 (by first | assumption | omega | rfl) hz_256 (by first | assumption | omega | rfl) hμ (by first | assumption | omega | rfl)) (cwV 2 hts (goodIn_of _ (by decide +kernel)) rfl rfl rfl (by decide +kernel) ⟨Nat.le_of_ble_eq_true rfl, Nat.le_of_ble_eq_true rfl⟩) ⟨fun a U g mk q => by obtain ⟨q0, q1, qP, qK, qD⟩ := q; exact ⟨q0, q1, qP, va_K.moved (u := U) (U := U.calling g mk a) (Vm.Alike.refl U.vm) qK, qD⟩, va_recv hK hPc (ci := 6) (q0 := 0) rfl rfl, fun U hU hW => ⟨rfl, by rw [hU], by rw [hU]; exact hPc, va_K.moved hW.alike hK, hDc.weaken (fun _ _ _ _ => trivial)⟩⟩ rfl rfl hl.1 rfl (lv_room (Nat.le_of_ble_eq_true rfl)) dL_isSo_241 ⟨Nat.le_of_ble_eq_true rfl, Nat.le_of_ble_eq_true rfl⟩) hS (fun q _ h => hFc q h) hFc (fun r_261 u t H1 locs ht hvm hw hB hz1 hk1 hS => ?_)
                          obtain ⟨κ1_262, hz_263, hP1, hK1, hD1⟩ := hB
                          rw [ht] at hP1
                          obtain ⟨hP, hD⟩ := va_joinP (wr := [(q_1, .inl (cI, 5, .inl (zf (pz_u g (kk + 1).toNat ((g (kk + 1).toNat) + 1)))))]) (rx := []) (pl1 := (pq_WD cI cZ cM cT hh ms gv tn tb κ1_262)) hP hD [] [0] rfl rfl (by decide) (by decide) hk1 hFc hP1 hD1
                          generalize H1 = H at hP hS ⊢
                          have hP : va_P (dC, dI) vwCl ([(q_1, .inl (cI, 5, .inl (zf (pz_u g (kk + 1).toNat ((g (kk + 1).toNat) + 1)))))] ++ (pq_WD cI cZ cM cT hh ms gv tn tb κ1_262)) H := hP
                          have hD : va_D A ([(q_1, .inl (cI, 5, .inl (zf (pz_u g (kk + 1).toNat ((g (kk + 1).toNat) + 1)))))] ++ (pq_WD cI cZ cM cT hh ms gv tn tb κ1_262)) := hD
                          refine W.widen (k := 1) (n := 5) (Nat.le_of_ble_eq_true rfl) (Nat.le_of_ble_eq_true rfl) ?_
                          obtain rfl : r_261 = zi (pq_om T kk ka kb (6 : Int)) := hw
                          refine pz_top (y := zi (pq_as T 6)) (congrArg zi (rfl)) ?_
                          refine lv_aload_n hx hb dL_isSo_244 rfl (lv_at hl 5 rfl) ?_
                          refine lv_iload_n hx hb dL_isSo_245 rfl (lv_at hl 7 rfl) ?_
                          refine lv_bipush (v := zi 7) hx hb dL_isSo_246 (by decide) ?_
                          have hPc := hP.part (cx := []) [] rfl
                          have hDc := hD.part (cx := []) [] (by decide) rfl
                          have hFc := va_freeP (cx := []) hD hS hA [] rfl
                          refine va_calli (va_runV (As := [.int (zi j), .int (zi 7)]) (rest := [.int (zi (pq_as T 6))]) ⟨hx, hb, hml, hown, hts⟩ (c_X7_ofMachine l dC dI cI cZ cM cT H.size hh ms gv tn tb κ1_262 j am aw av ax T kk ka kb 7 (by first | assumption | omega | rfl) hz_263 (by first | assumption | omega | rfl) hμ (by first | assumption | omega | rfl)) (cwV 2 hts (goodIn_of _ (by decide +kernel)) rfl rfl rfl (by decide +kernel) ⟨Nat.le_of_ble_eq_true rfl, Nat.le_of_ble_eq_true rfl⟩) ⟨fun a U g mk q => by obtain ⟨q0, q1, qP, qK, qD⟩ := q; exact ⟨q0, q1, qP, va_K.moved (u := U) (U := U.calling g mk a) (Vm.Alike.refl U.vm) qK, qD⟩, va_recv hK hPc (ci := 6) (q0 := 0) rfl rfl, fun U hU hW => ⟨rfl, by rw [hU], by rw [hU]; exact hPc, va_K.moved hW.alike hK, hDc.weaken (fun _ _ _ _ => trivial)⟩⟩ rfl rfl hl.1 rfl (lv_room (Nat.le_of_ble_eq_true rfl)) dL_isSo_248 ⟨Nat.le_of_ble_eq_true rfl, Nat.le_of_ble_eq_true rfl⟩) hS (fun q _ h => hFc q h) hFc (fun r_264 u t H1 locs ht hvm hw hB hz1 hk1 hS => ?_)
                          obtain ⟨κ1_265, hz_266, hP1, hK1, hD1⟩ := hB
                          rw [ht] at hP1
                          obtain ⟨hP, hD⟩ := va_joinP (wr := [(q_1, .inl (cI, 5, .inl (zf (pz_u g (kk + 1).toNat ((g (kk + 1).toNat) + 1)))))]) (rx := []) (pl1 := (pq_WD cI cZ cM cT hh ms gv tn tb κ1_265)) hP hD [] [0] rfl rfl (by decide) (by decide) hk1 hFc hP1 hD1
                          generalize H1 = H at hP hS ⊢
                          have hP : va_P (dC, dI) vwCl ([(q_1, .inl (cI, 5, .inl (zf (pz_u g (kk + 1).toNat ((g (kk + 1).toNat) + 1)))))] ++ (pq_WD cI cZ cM cT hh ms gv tn tb κ1_265)) H := hP
                          have hD : va_D A ([(q_1, .inl (cI, 5, .inl (zf (pz_u g (kk + 1).toNat ((g (kk + 1).toNat) + 1)))))] ++ (pq_WD cI cZ cM cT hh ms gv tn tb κ1_265)) := hD
                          refine W.widen (k := 1) (n := 5) (Nat.le_of_ble_eq_true rfl) (Nat.le_of_ble_eq_true rfl) ?_
                          obtain rfl : r_264 = zi (pq_om T kk ka kb (7 : Int)) := hw
                          refine pz_top (y := zi (pq_as T 7)) (congrArg zi (rfl)) ?_
                          refine pz_icmp_le (tgt := 256) hx hb (by omega) dL_isSo_251 (by decide) (fun c_267 => ?_) (fun c_267 => ?_)
                          · have hg2 := pq_kinds hj.1 hμ (show -1 ≤ kk ∧ kk ≤ 3 by omega) hg
                            have he2 : e9 + q = pq_cy (ms.take (j + 1).toNat) := by rw [pq_cy_1 hj.1 hμ, ← he, hq2]
                            refine pz_iinc (lv' := [(3, .int (zi (j + 1))), (2, .int (zi (e9 + q))), (8, .int (zi (pq_ways T))), (7, .int (zi 1)), (5, .int (zi (pq_n T))), (4, .int (zi kk)), (0, .ref hh), (1, .ref q_1), (6, .int (zi q))]) hx hb dL_isSo_256 hl (k := 7) rfl (by decide) rfl (fun ls hl => ?_)
                            refine lv_goto (tgt := 8) hx hb dL_isSo_259 (by decide) ?_
                            exact ih_8 _ _ _ _ ⟨pz_u g (kk + 1).toNat ((g (kk + 1).toNat) + 1), e9 + q, j + 1, κ1_265, rfl, (by first | assumption | omega | rfl), hg2, he2, hz_266, hP, hD, hS, lv_sub hl [6, 7, 1, 0] rfl⟩ (by omega)
                          · exact (show False by omega).elim
            · refine lv_iload hx hb dL_isSo_180 (lv_at hl 4 rfl) ?_
              refine pz_if_ne (tgt := 189) hx hb (by omega) dL_isSo_182 (by decide) (fun c_268 => ?_) (fun c_268 => ?_)
              · refine lv_iconst (v := zi 0) hx hb dL_isSo_189 (by decide) ?_
                refine lv_iload hx hb dL_isSo_190 (lv_at hl 2 rfl) ?_
                refine pz_icmp_ne (tgt := 254) hx hb (by omega) dL_isSo_192 (by decide) (fun c_269 => ?_) (fun c_269 => ?_)
                · exact (show False by omega).elim
                · exact absurd c_269 (by omega)
              · refine lv_iconst (v := zi 1) hx hb dL_isSo_185 (by decide) ?_
                refine lv_goto (tgt := 190) hx hb dL_isSo_186 (by decide) ?_
                refine lv_iload hx hb dL_isSo_190 (lv_at hl 2 rfl) ?_
                refine pz_icmp_ne (tgt := 254) hx hb (by omega) dL_isSo_192 (by decide) (fun c_270 => ?_) (fun c_270 => ?_)
                · exact absurd c_270 (by omega)
                · refine lv_iload hx hb dL_isSo_195 (lv_at hl 4 rfl) ?_
                  refine pz_if_lt (tgt := 205) hx hb (by omega) dL_isSo_197 (by decide) (fun c_271 => ?_) (fun c_271 => ?_)
                  · refine lv_iload hx hb dL_isSo_205 (lv_at hl 4 rfl) ?_
                    refine pz_if_ge (tgt := 214) hx hb (by omega) dL_isSo_207 (by decide) (fun c_272 => ?_) (fun c_272 => ?_)
                    · refine lv_iconst (v := zi 0) hx hb dL_isSo_214 (by decide) ?_
                      refine lv_aload_n hx hb dL_isSo_215 rfl (lv_at hl 5 rfl) ?_
                      refine lv_iload_n hx hb dL_isSo_216 rfl (lv_at hl 7 rfl) ?_
                      refine lv_iconst (v := zi 3) hx hb dL_isSo_217 (by decide) ?_
                      have hPc := hP.part (cx := []) [] rfl
                      have hDc := hD.part (cx := []) [] (by decide) rfl
                      have hFc := va_freeP (cx := []) hD hS hA [] rfl
                      refine va_calli (va_runV (As := [.int (zi j), .int (zi 3)]) (rest := [.int (zi 0)]) ⟨hx, hb, hml, hown, hts⟩ (c_X7_ofMachine l dC dI cI cZ cM cT H.size hh ms gv tn tb κ1_203 j am aw av ax T kk ka kb 3 (by first | assumption | omega | rfl) hz_204 (by first | assumption | omega | rfl) hμ (by first | assumption | omega | rfl)) (cwV 2 hts (goodIn_of _ (by decide +kernel)) rfl rfl rfl (by decide +kernel) ⟨Nat.le_of_ble_eq_true rfl, Nat.le_of_ble_eq_true rfl⟩) ⟨fun a U g mk q => by obtain ⟨q0, q1, qP, qK, qD⟩ := q; exact ⟨q0, q1, qP, va_K.moved (u := U) (U := U.calling g mk a) (Vm.Alike.refl U.vm) qK, qD⟩, va_recv hK hPc (ci := 6) (q0 := 0) rfl rfl, fun U hU hW => ⟨rfl, by rw [hU], by rw [hU]; exact hPc, va_K.moved hW.alike hK, hDc.weaken (fun _ _ _ _ => trivial)⟩⟩ rfl rfl hl.1 rfl (lv_room (Nat.le_of_ble_eq_true rfl)) dL_isSo_218 ⟨Nat.le_of_ble_eq_true rfl, Nat.le_of_ble_eq_true rfl⟩) hS (fun q _ h => hFc q h) hFc (fun r_273 u t H1 locs ht hvm hw hB hz1 hk1 hS => ?_)
                      obtain ⟨κ1_274, hz_275, hP1, hK1, hD1⟩ := hB
                      rw [ht] at hP1
                      obtain ⟨hP, hD⟩ := va_joinP (wr := [(q_1, .inl (cI, 5, .inl (zf (pz_u g (kk + 1).toNat ((g (kk + 1).toNat) + 1)))))]) (rx := []) (pl1 := (pq_WD cI cZ cM cT hh ms gv tn tb κ1_274)) hP hD [] [0] rfl rfl (by decide) (by decide) hk1 hFc hP1 hD1
                      generalize H1 = H at hP hS ⊢
                      have hP : va_P (dC, dI) vwCl ([(q_1, .inl (cI, 5, .inl (zf (pz_u g (kk + 1).toNat ((g (kk + 1).toNat) + 1)))))] ++ (pq_WD cI cZ cM cT hh ms gv tn tb κ1_274)) H := hP
                      have hD : va_D A ([(q_1, .inl (cI, 5, .inl (zf (pz_u g (kk + 1).toNat ((g (kk + 1).toNat) + 1)))))] ++ (pq_WD cI cZ cM cT hh ms gv tn tb κ1_274)) := hD
                      refine W.widen (k := 1) (n := 5) (Nat.le_of_ble_eq_true rfl) (Nat.le_of_ble_eq_true rfl) ?_
                      obtain rfl : r_273 = zi (pq_om T kk ka kb (3 : Int)) := hw
                      refine pz_top (y := zi ka) (congrArg zi (rfl)) ?_
                      refine pz_if_ge (tgt := 228) hx hb (by omega) dL_isSo_221 (by decide) (fun c_276 => ?_) (fun c_276 => ?_)
                      · refine lv_iconst (v := zi 0) hx hb dL_isSo_228 (by decide) ?_
                        refine pz_icmp_ne (tgt := 254) hx hb (by omega) dL_isSo_229 (by decide) (fun c_277 => ?_) (fun c_277 => ?_)
                        · exact absurd c_277 (by omega)
                        · refine lv_iload hx hb dL_isSo_232 (lv_at hl 2 rfl) ?_
                          refine pz_if_eq (tgt := 256) hx hb (by omega) dL_isSo_234 (by decide) (fun c_278 => ?_) (fun c_278 => ?_)
                          · exact absurd c_278 (by omega)
                          · refine lv_aload_n hx hb dL_isSo_237 rfl (lv_at hl 5 rfl) ?_
                            refine lv_iload_n hx hb dL_isSo_238 rfl (lv_at hl 7 rfl) ?_
                            refine lv_bipush (v := zi 6) hx hb dL_isSo_239 (by decide) ?_
                            have hPc := hP.part (cx := []) [] rfl
                            have hDc := hD.part (cx := []) [] (by decide) rfl
                            have hFc := va_freeP (cx := []) hD hS hA [] rfl
                            refine va_calli (va_runV (As := [.int (zi j), .int (zi 6)]) (rest := []) ⟨hx, hb, hml, hown, hts⟩ (c_X7_ofMachine l dC dI cI cZ cM cT H.size hh ms gv tn tb κ1_274 j am aw av ax T kk ka kb 6 (by first | assumption | omega | rfl) hz_275 (by first | assumption | omega | rfl) hμ (by first | assumption | omega | rfl)) (cwV 2 hts (goodIn_of _ (by decide +kernel)) rfl rfl rfl (by decide +kernel) ⟨Nat.le_of_ble_eq_true rfl, Nat.le_of_ble_eq_true rfl⟩) ⟨fun a U g mk q => by obtain ⟨q0, q1, qP, qK, qD⟩ := q; exact ⟨q0, q1, qP, va_K.moved (u := U) (U := U.calling g mk a) (Vm.Alike.refl U.vm) qK, qD⟩, va_recv hK hPc (ci := 6) (q0 := 0) rfl rfl, fun U hU hW => ⟨rfl, by rw [hU], by rw [hU]; exact hPc, va_K.moved hW.alike hK, hDc.weaken (fun _ _ _ _ => trivial)⟩⟩ rfl rfl hl.1 rfl (lv_room (Nat.le_of_ble_eq_true rfl)) dL_isSo_241 ⟨Nat.le_of_ble_eq_true rfl, Nat.le_of_ble_eq_true rfl⟩) hS (fun q _ h => hFc q h) hFc (fun r_279 u t H1 locs ht hvm hw hB hz1 hk1 hS => ?_)
                            obtain ⟨κ1_280, hz_281, hP1, hK1, hD1⟩ := hB
                            rw [ht] at hP1
                            obtain ⟨hP, hD⟩ := va_joinP (wr := [(q_1, .inl (cI, 5, .inl (zf (pz_u g (kk + 1).toNat ((g (kk + 1).toNat) + 1)))))]) (rx := []) (pl1 := (pq_WD cI cZ cM cT hh ms gv tn tb κ1_280)) hP hD [] [0] rfl rfl (by decide) (by decide) hk1 hFc hP1 hD1
                            generalize H1 = H at hP hS ⊢
                            have hP : va_P (dC, dI) vwCl ([(q_1, .inl (cI, 5, .inl (zf (pz_u g (kk + 1).toNat ((g (kk + 1).toNat) + 1)))))] ++ (pq_WD cI cZ cM cT hh ms gv tn tb κ1_280)) H := hP
                            have hD : va_D A ([(q_1, .inl (cI, 5, .inl (zf (pz_u g (kk + 1).toNat ((g (kk + 1).toNat) + 1)))))] ++ (pq_WD cI cZ cM cT hh ms gv tn tb κ1_280)) := hD
                            refine W.widen (k := 1) (n := 5) (Nat.le_of_ble_eq_true rfl) (Nat.le_of_ble_eq_true rfl) ?_
                            obtain rfl : r_279 = zi (pq_om T kk ka kb (6 : Int)) := hw
                            refine pz_top (y := zi (pq_as T 6)) (congrArg zi (rfl)) ?_
                            refine lv_aload_n hx hb dL_isSo_244 rfl (lv_at hl 5 rfl) ?_
                            refine lv_iload_n hx hb dL_isSo_245 rfl (lv_at hl 7 rfl) ?_
                            refine lv_bipush (v := zi 7) hx hb dL_isSo_246 (by decide) ?_
                            have hPc := hP.part (cx := []) [] rfl
                            have hDc := hD.part (cx := []) [] (by decide) rfl
                            have hFc := va_freeP (cx := []) hD hS hA [] rfl
                            refine va_calli (va_runV (As := [.int (zi j), .int (zi 7)]) (rest := [.int (zi (pq_as T 6))]) ⟨hx, hb, hml, hown, hts⟩ (c_X7_ofMachine l dC dI cI cZ cM cT H.size hh ms gv tn tb κ1_280 j am aw av ax T kk ka kb 7 (by first | assumption | omega | rfl) hz_281 (by first | assumption | omega | rfl) hμ (by first | assumption | omega | rfl)) (cwV 2 hts (goodIn_of _ (by decide +kernel)) rfl rfl rfl (by decide +kernel) ⟨Nat.le_of_ble_eq_true rfl, Nat.le_of_ble_eq_true rfl⟩) ⟨fun a U g mk q => by obtain ⟨q0, q1, qP, qK, qD⟩ := q; exact ⟨q0, q1, qP, va_K.moved (u := U) (U := U.calling g mk a) (Vm.Alike.refl U.vm) qK, qD⟩, va_recv hK hPc (ci := 6) (q0 := 0) rfl rfl, fun U hU hW => ⟨rfl, by rw [hU], by rw [hU]; exact hPc, va_K.moved hW.alike hK, hDc.weaken (fun _ _ _ _ => trivial)⟩⟩ rfl rfl hl.1 rfl (lv_room (Nat.le_of_ble_eq_true rfl)) dL_isSo_248 ⟨Nat.le_of_ble_eq_true rfl, Nat.le_of_ble_eq_true rfl⟩) hS (fun q _ h => hFc q h) hFc (fun r_282 u t H1 locs ht hvm hw hB hz1 hk1 hS => ?_)
                            obtain ⟨κ1_283, hz_284, hP1, hK1, hD1⟩ := hB
                            rw [ht] at hP1
                            obtain ⟨hP, hD⟩ := va_joinP (wr := [(q_1, .inl (cI, 5, .inl (zf (pz_u g (kk + 1).toNat ((g (kk + 1).toNat) + 1)))))]) (rx := []) (pl1 := (pq_WD cI cZ cM cT hh ms gv tn tb κ1_283)) hP hD [] [0] rfl rfl (by decide) (by decide) hk1 hFc hP1 hD1
                            generalize H1 = H at hP hS ⊢
                            have hP : va_P (dC, dI) vwCl ([(q_1, .inl (cI, 5, .inl (zf (pz_u g (kk + 1).toNat ((g (kk + 1).toNat) + 1)))))] ++ (pq_WD cI cZ cM cT hh ms gv tn tb κ1_283)) H := hP
                            have hD : va_D A ([(q_1, .inl (cI, 5, .inl (zf (pz_u g (kk + 1).toNat ((g (kk + 1).toNat) + 1)))))] ++ (pq_WD cI cZ cM cT hh ms gv tn tb κ1_283)) := hD
                            refine W.widen (k := 1) (n := 5) (Nat.le_of_ble_eq_true rfl) (Nat.le_of_ble_eq_true rfl) ?_
                            obtain rfl : r_282 = zi (pq_om T kk ka kb (7 : Int)) := hw
                            refine pz_top (y := zi (pq_as T 7)) (congrArg zi (rfl)) ?_
                            refine pz_icmp_le (tgt := 256) hx hb (by omega) dL_isSo_251 (by decide) (fun c_285 => ?_) (fun c_285 => ?_)
                            · have hg2 := pq_kinds hj.1 hμ (show -1 ≤ kk ∧ kk ≤ 3 by omega) hg
                              have he2 : e9 + q = pq_cy (ms.take (j + 1).toNat) := by rw [pq_cy_1 hj.1 hμ, ← he, hq2]
                              refine pz_iinc (lv' := [(3, .int (zi (j + 1))), (2, .int (zi (e9 + q))), (8, .int (zi (pq_ways T))), (7, .int (zi 1)), (5, .int (zi (pq_n T))), (4, .int (zi kk)), (0, .ref hh), (1, .ref q_1), (6, .int (zi q))]) hx hb dL_isSo_256 hl (k := 7) rfl (by decide) rfl (fun ls hl => ?_)
                              refine lv_goto (tgt := 8) hx hb dL_isSo_259 (by decide) ?_
                              exact ih_8 _ _ _ _ ⟨pz_u g (kk + 1).toNat ((g (kk + 1).toNat) + 1), e9 + q, j + 1, κ1_283, rfl, (by first | assumption | omega | rfl), hg2, he2, hz_284, hP, hD, hS, lv_sub hl [6, 7, 1, 0] rfl⟩ (by omega)
                            · exact (show False by omega).elim
                      · refine lv_iconst (v := zi 1) hx hb dL_isSo_224 (by decide) ?_
                        refine lv_goto (tgt := 229) hx hb dL_isSo_225 (by decide) ?_
                        refine pz_icmp_ne (tgt := 254) hx hb (by omega) dL_isSo_229 (by decide) (fun c_286 => ?_) (fun c_286 => ?_)
                        · exact (show False by omega).elim
                        · exact absurd c_286 (by omega)
                    · refine lv_iconst (v := zi 1) hx hb dL_isSo_210 (by decide) ?_
                      refine lv_goto (tgt := 215) hx hb dL_isSo_211 (by decide) ?_
                      refine lv_aload_n hx hb dL_isSo_215 rfl (lv_at hl 5 rfl) ?_
                      refine lv_iload_n hx hb dL_isSo_216 rfl (lv_at hl 7 rfl) ?_
                      refine lv_iconst (v := zi 3) hx hb dL_isSo_217 (by decide) ?_
                      have hPc := hP.part (cx := []) [] rfl
                      have hDc := hD.part (cx := []) [] (by decide) rfl
                      have hFc := va_freeP (cx := []) hD hS hA [] rfl
                      refine va_calli (va_runV (As := [.int (zi j), .int (zi 3)]) (rest := [.int (zi 1)]) ⟨hx, hb, hml, hown, hts⟩ (c_X7_ofMachine l dC dI cI cZ cM cT H.size hh ms gv tn tb κ1_203 j am aw av ax T kk ka kb 3 (by first | assumption | omega | rfl) hz_204 (by first | assumption | omega | rfl) hμ (by first | assumption | omega | rfl)) (cwV 2 hts (goodIn_of _ (by decide +kernel)) rfl rfl rfl (by decide +kernel) ⟨Nat.le_of_ble_eq_true rfl, Nat.le_of_ble_eq_true rfl⟩) ⟨fun a U g mk q => by obtain ⟨q0, q1, qP, qK, qD⟩ := q; exact ⟨q0, q1, qP, va_K.moved (u := U) (U := U.calling g mk a) (Vm.Alike.refl U.vm) qK, qD⟩, va_recv hK hPc (ci := 6) (q0 := 0) rfl rfl, fun U hU hW => ⟨rfl, by rw [hU], by rw [hU]; exact hPc, va_K.moved hW.alike hK, hDc.weaken (fun _ _ _ _ => trivial)⟩⟩ rfl rfl hl.1 rfl (lv_room (Nat.le_of_ble_eq_true rfl)) dL_isSo_218 ⟨Nat.le_of_ble_eq_true rfl, Nat.le_of_ble_eq_true rfl⟩) hS (fun q _ h => hFc q h) hFc (fun r_287 u t H1 locs ht hvm hw hB hz1 hk1 hS => ?_)
                      obtain ⟨κ1_288, hz_289, hP1, hK1, hD1⟩ := hB
                      rw [ht] at hP1
                      obtain ⟨hP, hD⟩ := va_joinP (wr := [(q_1, .inl (cI, 5, .inl (zf (pz_u g (kk + 1).toNat ((g (kk + 1).toNat) + 1)))))]) (rx := []) (pl1 := (pq_WD cI cZ cM cT hh ms gv tn tb κ1_288)) hP hD [] [0] rfl rfl (by decide) (by decide) hk1 hFc hP1 hD1
                      generalize H1 = H at hP hS ⊢
                      have hP : va_P (dC, dI) vwCl ([(q_1, .inl (cI, 5, .inl (zf (pz_u g (kk + 1).toNat ((g (kk + 1).toNat) + 1)))))] ++ (pq_WD cI cZ cM cT hh ms gv tn tb κ1_288)) H := hP
                      have hD : va_D A ([(q_1, .inl (cI, 5, .inl (zf (pz_u g (kk + 1).toNat ((g (kk + 1).toNat) + 1)))))] ++ (pq_WD cI cZ cM cT hh ms gv tn tb κ1_288)) := hD
                      refine W.widen (k := 1) (n := 5) (Nat.le_of_ble_eq_true rfl) (Nat.le_of_ble_eq_true rfl) ?_
                      obtain rfl : r_287 = zi (pq_om T kk ka kb (3 : Int)) := hw
                      refine pz_top (y := zi ka) (congrArg zi (rfl)) ?_
                      refine pz_if_ge (tgt := 228) hx hb (by omega) dL_isSo_221 (by decide) (fun c_290 => ?_) (fun c_290 => ?_)
                      · refine lv_iconst (v := zi 0) hx hb dL_isSo_228 (by decide) ?_
                        refine pz_icmp_ne (tgt := 254) hx hb (by omega) dL_isSo_229 (by decide) (fun c_291 => ?_) (fun c_291 => ?_)
                        · exact (show False by omega).elim
                        · exact absurd c_291 (by omega)
                      · refine lv_iconst (v := zi 1) hx hb dL_isSo_224 (by decide) ?_
                        refine lv_goto (tgt := 229) hx hb dL_isSo_225 (by decide) ?_
                        refine pz_icmp_ne (tgt := 254) hx hb (by omega) dL_isSo_229 (by decide) (fun c_292 => ?_) (fun c_292 => ?_)
                        · exact absurd c_292 (by omega)
                        · refine lv_iload hx hb dL_isSo_232 (lv_at hl 2 rfl) ?_
                          refine pz_if_eq (tgt := 256) hx hb (by omega) dL_isSo_234 (by decide) (fun c_293 => ?_) (fun c_293 => ?_)
                          · exact absurd c_293 (by omega)
                          · refine lv_aload_n hx hb dL_isSo_237 rfl (lv_at hl 5 rfl) ?_
                            refine lv_iload_n hx hb dL_isSo_238 rfl (lv_at hl 7 rfl) ?_
                            refine lv_bipush (v := zi 6) hx hb dL_isSo_239 (by decide) ?_
                            have hPc := hP.part (cx := []) [] rfl
                            have hDc := hD.part (cx := []) [] (by decide) rfl
                            have hFc := va_freeP (cx := []) hD hS hA [] rfl
                            refine va_calli (va_runV (As := [.int (zi j), .int (zi 6)]) (rest := []) ⟨hx, hb, hml, hown, hts⟩ (c_X7_ofMachine l dC dI cI cZ cM cT H.size hh ms gv tn tb κ1_288 j am aw av ax T kk ka kb 6 (by first | assumption | omega | rfl) hz_289 (by first | assumption | omega | rfl) hμ (by first | assumption | omega | rfl)) (cwV 2 hts (goodIn_of _ (by decide +kernel)) rfl rfl rfl (by decide +kernel) ⟨Nat.le_of_ble_eq_true rfl, Nat.le_of_ble_eq_true rfl⟩) ⟨fun a U g mk q => by obtain ⟨q0, q1, qP, qK, qD⟩ := q; exact ⟨q0, q1, qP, va_K.moved (u := U) (U := U.calling g mk a) (Vm.Alike.refl U.vm) qK, qD⟩, va_recv hK hPc (ci := 6) (q0 := 0) rfl rfl, fun U hU hW => ⟨rfl, by rw [hU], by rw [hU]; exact hPc, va_K.moved hW.alike hK, hDc.weaken (fun _ _ _ _ => trivial)⟩⟩ rfl rfl hl.1 rfl (lv_room (Nat.le_of_ble_eq_true rfl)) dL_isSo_241 ⟨Nat.le_of_ble_eq_true rfl, Nat.le_of_ble_eq_true rfl⟩) hS (fun q _ h => hFc q h) hFc (fun r_294 u t H1 locs ht hvm hw hB hz1 hk1 hS => ?_)
                            obtain ⟨κ1_295, hz_296, hP1, hK1, hD1⟩ := hB
                            rw [ht] at hP1
                            obtain ⟨hP, hD⟩ := va_joinP (wr := [(q_1, .inl (cI, 5, .inl (zf (pz_u g (kk + 1).toNat ((g (kk + 1).toNat) + 1)))))]) (rx := []) (pl1 := (pq_WD cI cZ cM cT hh ms gv tn tb κ1_295)) hP hD [] [0] rfl rfl (by decide) (by decide) hk1 hFc hP1 hD1
                            generalize H1 = H at hP hS ⊢
                            have hP : va_P (dC, dI) vwCl ([(q_1, .inl (cI, 5, .inl (zf (pz_u g (kk + 1).toNat ((g (kk + 1).toNat) + 1)))))] ++ (pq_WD cI cZ cM cT hh ms gv tn tb κ1_295)) H := hP
                            have hD : va_D A ([(q_1, .inl (cI, 5, .inl (zf (pz_u g (kk + 1).toNat ((g (kk + 1).toNat) + 1)))))] ++ (pq_WD cI cZ cM cT hh ms gv tn tb κ1_295)) := hD
                            refine W.widen (k := 1) (n := 5) (Nat.le_of_ble_eq_true rfl) (Nat.le_of_ble_eq_true rfl) ?_
                            obtain rfl : r_294 = zi (pq_om T kk ka kb (6 : Int)) := hw
                            refine pz_top (y := zi (pq_as T 6)) (congrArg zi (rfl)) ?_
                            refine lv_aload_n hx hb dL_isSo_244 rfl (lv_at hl 5 rfl) ?_
                            refine lv_iload_n hx hb dL_isSo_245 rfl (lv_at hl 7 rfl) ?_
                            refine lv_bipush (v := zi 7) hx hb dL_isSo_246 (by decide) ?_
                            have hPc := hP.part (cx := []) [] rfl
                            have hDc := hD.part (cx := []) [] (by decide) rfl
                            have hFc := va_freeP (cx := []) hD hS hA [] rfl
                            refine va_calli (va_runV (As := [.int (zi j), .int (zi 7)]) (rest := [.int (zi (pq_as T 6))]) ⟨hx, hb, hml, hown, hts⟩ (c_X7_ofMachine l dC dI cI cZ cM cT H.size hh ms gv tn tb κ1_295 j am aw av ax T kk ka kb 7 (by first | assumption | omega | rfl) hz_296 (by first | assumption | omega | rfl) hμ (by first | assumption | omega | rfl)) (cwV 2 hts (goodIn_of _ (by decide +kernel)) rfl rfl rfl (by decide +kernel) ⟨Nat.le_of_ble_eq_true rfl, Nat.le_of_ble_eq_true rfl⟩) ⟨fun a U g mk q => by obtain ⟨q0, q1, qP, qK, qD⟩ := q; exact ⟨q0, q1, qP, va_K.moved (u := U) (U := U.calling g mk a) (Vm.Alike.refl U.vm) qK, qD⟩, va_recv hK hPc (ci := 6) (q0 := 0) rfl rfl, fun U hU hW => ⟨rfl, by rw [hU], by rw [hU]; exact hPc, va_K.moved hW.alike hK, hDc.weaken (fun _ _ _ _ => trivial)⟩⟩ rfl rfl hl.1 rfl (lv_room (Nat.le_of_ble_eq_true rfl)) dL_isSo_248 ⟨Nat.le_of_ble_eq_true rfl, Nat.le_of_ble_eq_true rfl⟩) hS (fun q _ h => hFc q h) hFc (fun r_297 u t H1 locs ht hvm hw hB hz1 hk1 hS => ?_)
                            obtain ⟨κ1_298, hz_299, hP1, hK1, hD1⟩ := hB
                            rw [ht] at hP1
                            obtain ⟨hP, hD⟩ := va_joinP (wr := [(q_1, .inl (cI, 5, .inl (zf (pz_u g (kk + 1).toNat ((g (kk + 1).toNat) + 1)))))]) (rx := []) (pl1 := (pq_WD cI cZ cM cT hh ms gv tn tb κ1_298)) hP hD [] [0] rfl rfl (by decide) (by decide) hk1 hFc hP1 hD1
                            generalize H1 = H at hP hS ⊢
                            have hP : va_P (dC, dI) vwCl ([(q_1, .inl (cI, 5, .inl (zf (pz_u g (kk + 1).toNat ((g (kk + 1).toNat) + 1)))))] ++ (pq_WD cI cZ cM cT hh ms gv tn tb κ1_298)) H := hP
                            have hD : va_D A ([(q_1, .inl (cI, 5, .inl (zf (pz_u g (kk + 1).toNat ((g (kk + 1).toNat) + 1)))))] ++ (pq_WD cI cZ cM cT hh ms gv tn tb κ1_298)) := hD
                            refine W.widen (k := 1) (n := 5) (Nat.le_of_ble_eq_true rfl) (Nat.le_of_ble_eq_true rfl) ?_
                            obtain rfl : r_297 = zi (pq_om T kk ka kb (7 : Int)) := hw
                            refine pz_top (y := zi (pq_as T 7)) (congrArg zi (rfl)) ?_
                            refine pz_icmp_le (tgt := 256) hx hb (by omega) dL_isSo_251 (by decide) (fun c_300 => ?_) (fun c_300 => ?_)
                            · have hg2 := pq_kinds hj.1 hμ (show -1 ≤ kk ∧ kk ≤ 3 by omega) hg
                              have he2 : e9 + q = pq_cy (ms.take (j + 1).toNat) := by rw [pq_cy_1 hj.1 hμ, ← he, hq2]
                              refine pz_iinc (lv' := [(3, .int (zi (j + 1))), (2, .int (zi (e9 + q))), (8, .int (zi (pq_ways T))), (7, .int (zi 1)), (5, .int (zi (pq_n T))), (4, .int (zi kk)), (0, .ref hh), (1, .ref q_1), (6, .int (zi q))]) hx hb dL_isSo_256 hl (k := 7) rfl (by decide) rfl (fun ls hl => ?_)
                              refine lv_goto (tgt := 8) hx hb dL_isSo_259 (by decide) ?_
                              exact ih_8 _ _ _ _ ⟨pz_u g (kk + 1).toNat ((g (kk + 1).toNat) + 1), e9 + q, j + 1, κ1_298, rfl, (by first | assumption | omega | rfl), hg2, he2, hz_299, hP, hD, hS, lv_sub hl [6, 7, 1, 0] rfl⟩ (by omega)
                            · exact (show False by omega).elim
                  · refine lv_iload hx hb dL_isSo_200 (lv_at hl 1 rfl) ?_
                    refine pz_if_gt (tgt := 254) hx hb (by omega) dL_isSo_202 (by decide) (fun c_301 => ?_) (fun c_301 => ?_)
                    · exact (show False by omega).elim
                    · refine lv_iload hx hb dL_isSo_205 (lv_at hl 4 rfl) ?_
                      refine pz_if_ge (tgt := 214) hx hb (by omega) dL_isSo_207 (by decide) (fun c_302 => ?_) (fun c_302 => ?_)
                      · refine lv_iconst (v := zi 0) hx hb dL_isSo_214 (by decide) ?_
                        refine lv_aload_n hx hb dL_isSo_215 rfl (lv_at hl 5 rfl) ?_
                        refine lv_iload_n hx hb dL_isSo_216 rfl (lv_at hl 7 rfl) ?_
                        refine lv_iconst (v := zi 3) hx hb dL_isSo_217 (by decide) ?_
                        have hPc := hP.part (cx := []) [] rfl
                        have hDc := hD.part (cx := []) [] (by decide) rfl
                        have hFc := va_freeP (cx := []) hD hS hA [] rfl
                        refine va_calli (va_runV (As := [.int (zi j), .int (zi 3)]) (rest := [.int (zi 0)]) ⟨hx, hb, hml, hown, hts⟩ (c_X7_ofMachine l dC dI cI cZ cM cT H.size hh ms gv tn tb κ1_203 j am aw av ax T kk ka kb 3 (by first | assumption | omega | rfl) hz_204 (by first | assumption | omega | rfl) hμ (by first | assumption | omega | rfl)) (cwV 2 hts (goodIn_of _ (by decide +kernel)) rfl rfl rfl (by decide +kernel) ⟨Nat.le_of_ble_eq_true rfl, Nat.le_of_ble_eq_true rfl⟩) ⟨fun a U g mk q => by obtain ⟨q0, q1, qP, qK, qD⟩ := q; exact ⟨q0, q1, qP, va_K.moved (u := U) (U := U.calling g mk a) (Vm.Alike.refl U.vm) qK, qD⟩, va_recv hK hPc (ci := 6) (q0 := 0) rfl rfl, fun U hU hW => ⟨rfl, by rw [hU], by rw [hU]; exact hPc, va_K.moved hW.alike hK, hDc.weaken (fun _ _ _ _ => trivial)⟩⟩ rfl rfl hl.1 rfl (lv_room (Nat.le_of_ble_eq_true rfl)) dL_isSo_218 ⟨Nat.le_of_ble_eq_true rfl, Nat.le_of_ble_eq_true rfl⟩) hS (fun q _ h => hFc q h) hFc (fun r_303 u t H1 locs ht hvm hw hB hz1 hk1 hS => ?_)
                        obtain ⟨κ1_304, hz_305, hP1, hK1, hD1⟩ := hB
                        rw [ht] at hP1
                        obtain ⟨hP, hD⟩ := va_joinP (wr := [(q_1, .inl (cI, 5, .inl (zf (pz_u g (kk + 1).toNat ((g (kk + 1).toNat) + 1)))))]) (rx := []) (pl1 := (pq_WD cI cZ cM cT hh ms gv tn tb κ1_304)) hP hD [] [0] rfl rfl (by decide) (by decide) hk1 hFc hP1 hD1
                        generalize H1 = H at hP hS ⊢
                        have hP : va_P (dC, dI) vwCl ([(q_1, .inl (cI, 5, .inl (zf (pz_u g (kk + 1).toNat ((g (kk + 1).toNat) + 1)))))] ++ (pq_WD cI cZ cM cT hh ms gv tn tb κ1_304)) H := hP
                        have hD : va_D A ([(q_1, .inl (cI, 5, .inl (zf (pz_u g (kk + 1).toNat ((g (kk + 1).toNat) + 1)))))] ++ (pq_WD cI cZ cM cT hh ms gv tn tb κ1_304)) := hD
                        refine W.widen (k := 1) (n := 5) (Nat.le_of_ble_eq_true rfl) (Nat.le_of_ble_eq_true rfl) ?_
                        obtain rfl : r_303 = zi (pq_om T kk ka kb (3 : Int)) := hw
                        refine pz_top (y := zi ka) (congrArg zi (rfl)) ?_
                        refine pz_if_ge (tgt := 228) hx hb (by omega) dL_isSo_221 (by decide) (fun c_306 => ?_) (fun c_306 => ?_)
                        · refine lv_iconst (v := zi 0) hx hb dL_isSo_228 (by decide) ?_
                          refine pz_icmp_ne (tgt := 254) hx hb (by omega) dL_isSo_229 (by decide) (fun c_307 => ?_) (fun c_307 => ?_)
                          · exact absurd c_307 (by omega)
                          · refine lv_iload hx hb dL_isSo_232 (lv_at hl 2 rfl) ?_
                            refine pz_if_eq (tgt := 256) hx hb (by omega) dL_isSo_234 (by decide) (fun c_308 => ?_) (fun c_308 => ?_)
                            · exact absurd c_308 (by omega)
                            · refine lv_aload_n hx hb dL_isSo_237 rfl (lv_at hl 5 rfl) ?_
                              refine lv_iload_n hx hb dL_isSo_238 rfl (lv_at hl 7 rfl) ?_
                              refine lv_bipush (v := zi 6) hx hb dL_isSo_239 (by decide) ?_
                              have hPc := hP.part (cx := []) [] rfl
                              have hDc := hD.part (cx := []) [] (by decide) rfl
                              have hFc := va_freeP (cx := []) hD hS hA [] rfl
                              refine va_calli (va_runV (As := [.int (zi j), .int (zi 6)]) (rest := []) ⟨hx, hb, hml, hown, hts⟩ (c_X7_ofMachine l dC dI cI cZ cM cT H.size hh ms gv tn tb κ1_304 j am aw av ax T kk ka kb 6 (by first | assumption | omega | rfl) hz_305 (by first | assumption | omega | rfl) hμ (by first | assumption | omega | rfl)) (cwV 2 hts (goodIn_of _ (by decide +kernel)) rfl rfl rfl (by decide +kernel) ⟨Nat.le_of_ble_eq_true rfl, Nat.le_of_ble_eq_true rfl⟩) ⟨fun a U g mk q => by obtain ⟨q0, q1, qP, qK, qD⟩ := q; exact ⟨q0, q1, qP, va_K.moved (u := U) (U := U.calling g mk a) (Vm.Alike.refl U.vm) qK, qD⟩, va_recv hK hPc (ci := 6) (q0 := 0) rfl rfl, fun U hU hW => ⟨rfl, by rw [hU], by rw [hU]; exact hPc, va_K.moved hW.alike hK, hDc.weaken (fun _ _ _ _ => trivial)⟩⟩ rfl rfl hl.1 rfl (lv_room (Nat.le_of_ble_eq_true rfl)) dL_isSo_241 ⟨Nat.le_of_ble_eq_true rfl, Nat.le_of_ble_eq_true rfl⟩) hS (fun q _ h => hFc q h) hFc (fun r_309 u t H1 locs ht hvm hw hB hz1 hk1 hS => ?_)
                              obtain ⟨κ1_310, hz_311, hP1, hK1, hD1⟩ := hB
                              rw [ht] at hP1
                              obtain ⟨hP, hD⟩ := va_joinP (wr := [(q_1, .inl (cI, 5, .inl (zf (pz_u g (kk + 1).toNat ((g (kk + 1).toNat) + 1)))))]) (rx := []) (pl1 := (pq_WD cI cZ cM cT hh ms gv tn tb κ1_310)) hP hD [] [0] rfl rfl (by decide) (by decide) hk1 hFc hP1 hD1
                              generalize H1 = H at hP hS ⊢
                              have hP : va_P (dC, dI) vwCl ([(q_1, .inl (cI, 5, .inl (zf (pz_u g (kk + 1).toNat ((g (kk + 1).toNat) + 1)))))] ++ (pq_WD cI cZ cM cT hh ms gv tn tb κ1_310)) H := hP
                              have hD : va_D A ([(q_1, .inl (cI, 5, .inl (zf (pz_u g (kk + 1).toNat ((g (kk + 1).toNat) + 1)))))] ++ (pq_WD cI cZ cM cT hh ms gv tn tb κ1_310)) := hD
                              refine W.widen (k := 1) (n := 5) (Nat.le_of_ble_eq_true rfl) (Nat.le_of_ble_eq_true rfl) ?_
                              obtain rfl : r_309 = zi (pq_om T kk ka kb (6 : Int)) := hw
                              refine pz_top (y := zi (pq_as T 6)) (congrArg zi (rfl)) ?_
                              refine lv_aload_n hx hb dL_isSo_244 rfl (lv_at hl 5 rfl) ?_
                              refine lv_iload_n hx hb dL_isSo_245 rfl (lv_at hl 7 rfl) ?_
                              refine lv_bipush (v := zi 7) hx hb dL_isSo_246 (by decide) ?_
                              have hPc := hP.part (cx := []) [] rfl
                              have hDc := hD.part (cx := []) [] (by decide) rfl
                              have hFc := va_freeP (cx := []) hD hS hA [] rfl
                              refine va_calli (va_runV (As := [.int (zi j), .int (zi 7)]) (rest := [.int (zi (pq_as T 6))]) ⟨hx, hb, hml, hown, hts⟩ (c_X7_ofMachine l dC dI cI cZ cM cT H.size hh ms gv tn tb κ1_310 j am aw av ax T kk ka kb 7 (by first | assumption | omega | rfl) hz_311 (by first | assumption | omega | rfl) hμ (by first | assumption | omega | rfl)) (cwV 2 hts (goodIn_of _ (by decide +kernel)) rfl rfl rfl (by decide +kernel) ⟨Nat.le_of_ble_eq_true rfl, Nat.le_of_ble_eq_true rfl⟩) ⟨fun a U g mk q => by obtain ⟨q0, q1, qP, qK, qD⟩ := q; exact ⟨q0, q1, qP, va_K.moved (u := U) (U := U.calling g mk a) (Vm.Alike.refl U.vm) qK, qD⟩, va_recv hK hPc (ci := 6) (q0 := 0) rfl rfl, fun U hU hW => ⟨rfl, by rw [hU], by rw [hU]; exact hPc, va_K.moved hW.alike hK, hDc.weaken (fun _ _ _ _ => trivial)⟩⟩ rfl rfl hl.1 rfl (lv_room (Nat.le_of_ble_eq_true rfl)) dL_isSo_248 ⟨Nat.le_of_ble_eq_true rfl, Nat.le_of_ble_eq_true rfl⟩) hS (fun q _ h => hFc q h) hFc (fun r_312 u t H1 locs ht hvm hw hB hz1 hk1 hS => ?_)
                              obtain ⟨κ1_313, hz_314, hP1, hK1, hD1⟩ := hB
                              rw [ht] at hP1
                              obtain ⟨hP, hD⟩ := va_joinP (wr := [(q_1, .inl (cI, 5, .inl (zf (pz_u g (kk + 1).toNat ((g (kk + 1).toNat) + 1)))))]) (rx := []) (pl1 := (pq_WD cI cZ cM cT hh ms gv tn tb κ1_313)) hP hD [] [0] rfl rfl (by decide) (by decide) hk1 hFc hP1 hD1
                              generalize H1 = H at hP hS ⊢
                              have hP : va_P (dC, dI) vwCl ([(q_1, .inl (cI, 5, .inl (zf (pz_u g (kk + 1).toNat ((g (kk + 1).toNat) + 1)))))] ++ (pq_WD cI cZ cM cT hh ms gv tn tb κ1_313)) H := hP
                              have hD : va_D A ([(q_1, .inl (cI, 5, .inl (zf (pz_u g (kk + 1).toNat ((g (kk + 1).toNat) + 1)))))] ++ (pq_WD cI cZ cM cT hh ms gv tn tb κ1_313)) := hD
                              refine W.widen (k := 1) (n := 5) (Nat.le_of_ble_eq_true rfl) (Nat.le_of_ble_eq_true rfl) ?_
                              obtain rfl : r_312 = zi (pq_om T kk ka kb (7 : Int)) := hw
                              refine pz_top (y := zi (pq_as T 7)) (congrArg zi (rfl)) ?_
                              refine pz_icmp_le (tgt := 256) hx hb (by omega) dL_isSo_251 (by decide) (fun c_315 => ?_) (fun c_315 => ?_)
                              · have hg2 := pq_kinds hj.1 hμ (show -1 ≤ kk ∧ kk ≤ 3 by omega) hg
                                have he2 : e9 + q = pq_cy (ms.take (j + 1).toNat) := by rw [pq_cy_1 hj.1 hμ, ← he, hq2]
                                refine pz_iinc (lv' := [(3, .int (zi (j + 1))), (2, .int (zi (e9 + q))), (8, .int (zi (pq_ways T))), (7, .int (zi 1)), (5, .int (zi (pq_n T))), (4, .int (zi kk)), (0, .ref hh), (1, .ref q_1), (6, .int (zi q))]) hx hb dL_isSo_256 hl (k := 7) rfl (by decide) rfl (fun ls hl => ?_)
                                refine lv_goto (tgt := 8) hx hb dL_isSo_259 (by decide) ?_
                                exact ih_8 _ _ _ _ ⟨pz_u g (kk + 1).toNat ((g (kk + 1).toNat) + 1), e9 + q, j + 1, κ1_313, rfl, (by first | assumption | omega | rfl), hg2, he2, hz_314, hP, hD, hS, lv_sub hl [6, 7, 1, 0] rfl⟩ (by omega)
                              · exact (show False by omega).elim
                        · refine lv_iconst (v := zi 1) hx hb dL_isSo_224 (by decide) ?_
                          refine lv_goto (tgt := 229) hx hb dL_isSo_225 (by decide) ?_
                          refine pz_icmp_ne (tgt := 254) hx hb (by omega) dL_isSo_229 (by decide) (fun c_316 => ?_) (fun c_316 => ?_)
                          · exact (show False by omega).elim
                          · exact absurd c_316 (by omega)
                      · refine lv_iconst (v := zi 1) hx hb dL_isSo_210 (by decide) ?_
                        refine lv_goto (tgt := 215) hx hb dL_isSo_211 (by decide) ?_
                        refine lv_aload_n hx hb dL_isSo_215 rfl (lv_at hl 5 rfl) ?_
                        refine lv_iload_n hx hb dL_isSo_216 rfl (lv_at hl 7 rfl) ?_
                        refine lv_iconst (v := zi 3) hx hb dL_isSo_217 (by decide) ?_
                        have hPc := hP.part (cx := []) [] rfl
                        have hDc := hD.part (cx := []) [] (by decide) rfl
                        have hFc := va_freeP (cx := []) hD hS hA [] rfl
                        refine va_calli (va_runV (As := [.int (zi j), .int (zi 3)]) (rest := [.int (zi 1)]) ⟨hx, hb, hml, hown, hts⟩ (c_X7_ofMachine l dC dI cI cZ cM cT H.size hh ms gv tn tb κ1_203 j am aw av ax T kk ka kb 3 (by first | assumption | omega | rfl) hz_204 (by first | assumption | omega | rfl) hμ (by first | assumption | omega | rfl)) (cwV 2 hts (goodIn_of _ (by decide +kernel)) rfl rfl rfl (by decide +kernel) ⟨Nat.le_of_ble_eq_true rfl, Nat.le_of_ble_eq_true rfl⟩) ⟨fun a U g mk q => by obtain ⟨q0, q1, qP, qK, qD⟩ := q; exact ⟨q0, q1, qP, va_K.moved (u := U) (U := U.calling g mk a) (Vm.Alike.refl U.vm) qK, qD⟩, va_recv hK hPc (ci := 6) (q0 := 0) rfl rfl, fun U hU hW => ⟨rfl, by rw [hU], by rw [hU]; exact hPc, va_K.moved hW.alike hK, hDc.weaken (fun _ _ _ _ => trivial)⟩⟩ rfl rfl hl.1 rfl (lv_room (Nat.le_of_ble_eq_true rfl)) dL_isSo_218 ⟨Nat.le_of_ble_eq_true rfl, Nat.le_of_ble_eq_true rfl⟩) hS (fun q _ h => hFc q h) hFc (fun r_317 u t H1 locs ht hvm hw hB hz1 hk1 hS => ?_)
                        obtain ⟨κ1_318, hz_319, hP1, hK1, hD1⟩ := hB
                        rw [ht] at hP1
                        obtain ⟨hP, hD⟩ := va_joinP (wr := [(q_1, .inl (cI, 5, .inl (zf (pz_u g (kk + 1).toNat ((g (kk + 1).toNat) + 1)))))]) (rx := []) (pl1 := (pq_WD cI cZ cM cT hh ms gv tn tb κ1_318)) hP hD [] [0] rfl rfl (by decide) (by decide) hk1 hFc hP1 hD1
                        generalize H1 = H at hP hS ⊢
                        have hP : va_P (dC, dI) vwCl ([(q_1, .inl (cI, 5, .inl (zf (pz_u g (kk + 1).toNat ((g (kk + 1).toNat) + 1)))))] ++ (pq_WD cI cZ cM cT hh ms gv tn tb κ1_318)) H := hP
                        have hD : va_D A ([(q_1, .inl (cI, 5, .inl (zf (pz_u g (kk + 1).toNat ((g (kk + 1).toNat) + 1)))))] ++ (pq_WD cI cZ cM cT hh ms gv tn tb κ1_318)) := hD
                        refine W.widen (k := 1) (n := 5) (Nat.le_of_ble_eq_true rfl) (Nat.le_of_ble_eq_true rfl) ?_
                        obtain rfl : r_317 = zi (pq_om T kk ka kb (3 : Int)) := hw
                        refine pz_top (y := zi ka) (congrArg zi (rfl)) ?_
                        refine pz_if_ge (tgt := 228) hx hb (by omega) dL_isSo_221 (by decide) (fun c_320 => ?_) (fun c_320 => ?_)
                        · refine lv_iconst (v := zi 0) hx hb dL_isSo_228 (by decide) ?_
                          refine pz_icmp_ne (tgt := 254) hx hb (by omega) dL_isSo_229 (by decide) (fun c_321 => ?_) (fun c_321 => ?_)
                          · exact (show False by omega).elim
                          · exact absurd c_321 (by omega)
                        · refine lv_iconst (v := zi 1) hx hb dL_isSo_224 (by decide) ?_
                          refine lv_goto (tgt := 229) hx hb dL_isSo_225 (by decide) ?_
                          refine pz_icmp_ne (tgt := 254) hx hb (by omega) dL_isSo_229 (by decide) (fun c_322 => ?_) (fun c_322 => ?_)
                          · exact absurd c_322 (by omega)
                          · refine lv_iload hx hb dL_isSo_232 (lv_at hl 2 rfl) ?_
                            refine pz_if_eq (tgt := 256) hx hb (by omega) dL_isSo_234 (by decide) (fun c_323 => ?_) (fun c_323 => ?_)
                            · exact absurd c_323 (by omega)
                            · refine lv_aload_n hx hb dL_isSo_237 rfl (lv_at hl 5 rfl) ?_
                              refine lv_iload_n hx hb dL_isSo_238 rfl (lv_at hl 7 rfl) ?_
                              refine lv_bipush (v := zi 6) hx hb dL_isSo_239 (by decide) ?_
                              have hPc := hP.part (cx := []) [] rfl
                              have hDc := hD.part (cx := []) [] (by decide) rfl
                              have hFc := va_freeP (cx := []) hD hS hA [] rfl
                              refine va_calli (va_runV (As := [.int (zi j), .int (zi 6)]) (rest := []) ⟨hx, hb, hml, hown, hts⟩ (c_X7_ofMachine l dC dI cI cZ cM cT H.size hh ms gv tn tb κ1_318 j am aw av ax T kk ka kb 6 (by first | assumption | omega | rfl) hz_319 (by first | assumption | omega | rfl) hμ (by first | assumption | omega | rfl)) (cwV 2 hts (goodIn_of _ (by decide +kernel)) rfl rfl rfl (by decide +kernel) ⟨Nat.le_of_ble_eq_true rfl, Nat.le_of_ble_eq_true rfl⟩) ⟨fun a U g mk q => by obtain ⟨q0, q1, qP, qK, qD⟩ := q; exact ⟨q0, q1, qP, va_K.moved (u := U) (U := U.calling g mk a) (Vm.Alike.refl U.vm) qK, qD⟩, va_recv hK hPc (ci := 6) (q0 := 0) rfl rfl, fun U hU hW => ⟨rfl, by rw [hU], by rw [hU]; exact hPc, va_K.moved hW.alike hK, hDc.weaken (fun _ _ _ _ => trivial)⟩⟩ rfl rfl hl.1 rfl (lv_room (Nat.le_of_ble_eq_true rfl)) dL_isSo_241 ⟨Nat.le_of_ble_eq_true rfl, Nat.le_of_ble_eq_true rfl⟩) hS (fun q _ h => hFc q h) hFc (fun r_324 u t H1 locs ht hvm hw hB hz1 hk1 hS => ?_)
                              obtain ⟨κ1_325, hz_326, hP1, hK1, hD1⟩ := hB
                              rw [ht] at hP1
                              obtain ⟨hP, hD⟩ := va_joinP (wr := [(q_1, .inl (cI, 5, .inl (zf (pz_u g (kk + 1).toNat ((g (kk + 1).toNat) + 1)))))]) (rx := []) (pl1 := (pq_WD cI cZ cM cT hh ms gv tn tb κ1_325)) hP hD [] [0] rfl rfl (by decide) (by decide) hk1 hFc hP1 hD1
                              generalize H1 = H at hP hS ⊢
                              have hP : va_P (dC, dI) vwCl ([(q_1, .inl (cI, 5, .inl (zf (pz_u g (kk + 1).toNat ((g (kk + 1).toNat) + 1)))))] ++ (pq_WD cI cZ cM cT hh ms gv tn tb κ1_325)) H := hP
                              have hD : va_D A ([(q_1, .inl (cI, 5, .inl (zf (pz_u g (kk + 1).toNat ((g (kk + 1).toNat) + 1)))))] ++ (pq_WD cI cZ cM cT hh ms gv tn tb κ1_325)) := hD
                              refine W.widen (k := 1) (n := 5) (Nat.le_of_ble_eq_true rfl) (Nat.le_of_ble_eq_true rfl) ?_
                              obtain rfl : r_324 = zi (pq_om T kk ka kb (6 : Int)) := hw
                              refine pz_top (y := zi (pq_as T 6)) (congrArg zi (rfl)) ?_
                              refine lv_aload_n hx hb dL_isSo_244 rfl (lv_at hl 5 rfl) ?_
                              refine lv_iload_n hx hb dL_isSo_245 rfl (lv_at hl 7 rfl) ?_
                              refine lv_bipush (v := zi 7) hx hb dL_isSo_246 (by decide) ?_
                              have hPc := hP.part (cx := []) [] rfl
                              have hDc := hD.part (cx := []) [] (by decide) rfl
                              have hFc := va_freeP (cx := []) hD hS hA [] rfl
                              refine va_calli (va_runV (As := [.int (zi j), .int (zi 7)]) (rest := [.int (zi (pq_as T 6))]) ⟨hx, hb, hml, hown, hts⟩ (c_X7_ofMachine l dC dI cI cZ cM cT H.size hh ms gv tn tb κ1_325 j am aw av ax T kk ka kb 7 (by first | assumption | omega | rfl) hz_326 (by first | assumption | omega | rfl) hμ (by first | assumption | omega | rfl)) (cwV 2 hts (goodIn_of _ (by decide +kernel)) rfl rfl rfl (by decide +kernel) ⟨Nat.le_of_ble_eq_true rfl, Nat.le_of_ble_eq_true rfl⟩) ⟨fun a U g mk q => by obtain ⟨q0, q1, qP, qK, qD⟩ := q; exact ⟨q0, q1, qP, va_K.moved (u := U) (U := U.calling g mk a) (Vm.Alike.refl U.vm) qK, qD⟩, va_recv hK hPc (ci := 6) (q0 := 0) rfl rfl, fun U hU hW => ⟨rfl, by rw [hU], by rw [hU]; exact hPc, va_K.moved hW.alike hK, hDc.weaken (fun _ _ _ _ => trivial)⟩⟩ rfl rfl hl.1 rfl (lv_room (Nat.le_of_ble_eq_true rfl)) dL_isSo_248 ⟨Nat.le_of_ble_eq_true rfl, Nat.le_of_ble_eq_true rfl⟩) hS (fun q _ h => hFc q h) hFc (fun r_327 u t H1 locs ht hvm hw hB hz1 hk1 hS => ?_)
                              obtain ⟨κ1_328, hz_329, hP1, hK1, hD1⟩ := hB
                              rw [ht] at hP1
                              obtain ⟨hP, hD⟩ := va_joinP (wr := [(q_1, .inl (cI, 5, .inl (zf (pz_u g (kk + 1).toNat ((g (kk + 1).toNat) + 1)))))]) (rx := []) (pl1 := (pq_WD cI cZ cM cT hh ms gv tn tb κ1_328)) hP hD [] [0] rfl rfl (by decide) (by decide) hk1 hFc hP1 hD1
                              generalize H1 = H at hP hS ⊢
                              have hP : va_P (dC, dI) vwCl ([(q_1, .inl (cI, 5, .inl (zf (pz_u g (kk + 1).toNat ((g (kk + 1).toNat) + 1)))))] ++ (pq_WD cI cZ cM cT hh ms gv tn tb κ1_328)) H := hP
                              have hD : va_D A ([(q_1, .inl (cI, 5, .inl (zf (pz_u g (kk + 1).toNat ((g (kk + 1).toNat) + 1)))))] ++ (pq_WD cI cZ cM cT hh ms gv tn tb κ1_328)) := hD
                              refine W.widen (k := 1) (n := 5) (Nat.le_of_ble_eq_true rfl) (Nat.le_of_ble_eq_true rfl) ?_
                              obtain rfl : r_327 = zi (pq_om T kk ka kb (7 : Int)) := hw
                              refine pz_top (y := zi (pq_as T 7)) (congrArg zi (rfl)) ?_
                              refine pz_icmp_le (tgt := 256) hx hb (by omega) dL_isSo_251 (by decide) (fun c_330 => ?_) (fun c_330 => ?_)
                              · have hg2 := pq_kinds hj.1 hμ (show -1 ≤ kk ∧ kk ≤ 3 by omega) hg
                                have he2 : e9 + q = pq_cy (ms.take (j + 1).toNat) := by rw [pq_cy_1 hj.1 hμ, ← he, hq2]
                                refine pz_iinc (lv' := [(3, .int (zi (j + 1))), (2, .int (zi (e9 + q))), (8, .int (zi (pq_ways T))), (7, .int (zi 1)), (5, .int (zi (pq_n T))), (4, .int (zi kk)), (0, .ref hh), (1, .ref q_1), (6, .int (zi q))]) hx hb dL_isSo_256 hl (k := 7) rfl (by decide) rfl (fun ls hl => ?_)
                                refine lv_goto (tgt := 8) hx hb dL_isSo_259 (by decide) ?_
                                exact ih_8 _ _ _ _ ⟨pz_u g (kk + 1).toNat ((g (kk + 1).toNat) + 1), e9 + q, j + 1, κ1_328, rfl, (by first | assumption | omega | rfl), hg2, he2, hz_329, hP, hD, hS, lv_sub hl [6, 7, 1, 0] rfl⟩ (by omega)
                              · exact (show False by omega).elim
          · refine lv_iload hx hb dL_isSo_137 (lv_at hl 1 rfl) ?_
            refine lv_bipush (v := zi 9) hx hb dL_isSo_139 (by decide) ?_
            refine pz_icmp_lt (tgt := 173) hx hb (by omega) dL_isSo_141 (by decide) (fun c_331 => ?_) (fun c_331 => ?_)
            · exact (show False by omega).elim
            · refine lv_iload hx hb dL_isSo_144 (lv_at hl 1 rfl) ?_
              refine lv_iconst (v := zi 1) hx hb dL_isSo_146 (by decide) ?_
              refine lv_iconst (v := zi 4) hx hb dL_isSo_147 (by decide) ?_
              refine lv_iload hx hb dL_isSo_148 (lv_at hl 3 rfl) ?_
              refine pz_imul hx hb dL_isSo_150 ?_
              refine pz_iadd hx hb dL_isSo_151 ?_
              refine pz_icmp_gt (tgt := 173) hx hb (by omega) dL_isSo_152 (by decide) (fun c_332 => ?_) (fun c_332 => ?_)
              · exact (show False by omega).elim
              · refine lv_iload hx hb dL_isSo_155 (lv_at hl 1 rfl) ?_
                refine lv_iconst (v := zi 4) hx hb dL_isSo_157 (by decide) ?_
                refine pz_irem hx hb (by omega) dL_isSo_158 ?_
                refine lv_iconst (v := zi 1) hx hb dL_isSo_159 (by decide) ?_
                refine pz_icmp_ne (tgt := 173) hx hb (by omega) dL_isSo_160 (by decide) (fun c_333 => ?_) (fun c_333 => ?_)
                · exact (show False by omega).elim
                · refine lv_iload hx hb dL_isSo_163 (lv_at hl 8 rfl) ?_
                  refine pz_if_eq (tgt := 173) hx hb (by omega) dL_isSo_165 (by decide) (fun c_334 => ?_) (fun c_334 => ?_)
                  · exact (show False by omega).elim
                  · refine lv_iload hx hb dL_isSo_168 (lv_at hl 2 rfl) ?_
                    refine pz_if_eq (tgt := 175) hx hb (by omega) dL_isSo_170 (by decide) (fun c_335 => ?_) (fun c_335 => ?_)
                    · exact absurd c_335 (by omega)
                    · exact (show False by omega).elim
    · refine lv_iload hx hb dL_isSo_48 (lv_at hl 6 rfl) ?_
      refine lv_aload_n hx hb dL_isSo_50 rfl (lv_at hl 2 rfl) ?_
      refine lv_iload_n hx hb dL_isSo_51 rfl (lv_at hl 5 rfl) ?_
      refine lv_iload hx hb dL_isSo_52 (lv_at hl 7 rfl) ?_
      refine lv_iconst (v := zi 2) hx hb dL_isSo_54 (by decide) ?_
      refine pz_idiv hx hb (by omega) dL_isSo_55 ?_
      refine lv_iload hx hb dL_isSo_56 (lv_at hl 7 rfl) ?_
      refine lv_iconst (v := zi 2) hx hb dL_isSo_58 (by decide) ?_
      refine pz_irem hx hb (by omega) dL_isSo_59 ?_
      refine lv_iconst (v := zi 0) hx hb dL_isSo_60 (by decide) ?_
      have hPc := hP.part (cx := []) [] rfl
      have hDc := hD.part (cx := []) [] (by decide) rfl
      have hFc := va_freeP (cx := []) hD hS hA [] rfl
      refine va_calli (va_runV (As := [.int (zi j), .int (zi (j2 / 2)), .int (zi (j2 % 2)), .int (zi 0)]) (rest := [.int (zi q)]) ⟨hx, hb, hml, hown, hts⟩ (c_X7_cell l dC dI cI cZ cM cT H.size hh ms gv tn tb κ4 j am aw av ax T kk ka kb (j2 / 2) (j2 % 2) 0 (by first | assumption | omega | rfl) hκ4 (by first | assumption | omega | rfl) hμ (by first | assumption | omega | rfl) (by first | assumption | omega | rfl) (by first | assumption | omega | rfl)) (cwV 4 hts (goodIn_of _ (by decide +kernel)) rfl rfl rfl (by decide +kernel) ⟨Nat.le_of_ble_eq_true rfl, Nat.le_of_ble_eq_true rfl⟩) ⟨fun a U g mk q => by obtain ⟨q0, q1, qP, qK, qD⟩ := q; exact ⟨q0, q1, qP, va_K.moved (u := U) (U := U.calling g mk a) (Vm.Alike.refl U.vm) qK, qD⟩, va_recv hK hPc (ci := 6) (q0 := 0) rfl rfl, fun U hU hW => ⟨rfl, by rw [hU], by rw [hU]; exact hPc, va_K.moved hW.alike hK, hDc.weaken (fun _ _ _ _ => trivial)⟩⟩ rfl rfl hl.1 rfl (lv_room (Nat.le_of_ble_eq_true rfl)) dL_isSo_61 ⟨Nat.le_of_ble_eq_true rfl, Nat.le_of_ble_eq_true rfl⟩) hS (fun q _ h => hFc q h) hFc (fun r_336 u t H1 locs ht hvm hw hB hz1 hk1 hS => ?_)
      obtain ⟨κ1_337, hz_338, hP1, hK1, hD1⟩ := hB
      rw [ht] at hP1
      obtain ⟨hP, hD⟩ := va_joinP (wr := [(q_1, .inl (cI, 5, .inl (zf g)))]) (rx := []) (pl1 := (pq_WD cI cZ cM cT hh ms gv tn tb κ1_337)) hP hD [] [0] rfl rfl (by decide) (by decide) hk1 hFc hP1 hD1
      generalize H1 = H at hP hS ⊢
      have hP : va_P (dC, dI) vwCl ([(q_1, .inl (cI, 5, .inl (zf g)))] ++ (pq_WD cI cZ cM cT hh ms gv tn tb κ1_337)) H := hP
      have hD : va_D A ([(q_1, .inl (cI, 5, .inl (zf g)))] ++ (pq_WD cI cZ cM cT hh ms gv tn tb κ1_337)) := hD
      refine W.widen (k := 1) (n := 5) (Nat.le_of_ble_eq_true rfl) (Nat.le_of_ble_eq_true rfl) ?_
      obtain rfl : r_336 = zi (pq_ca T (2 * (j2 / 2) + (j2 % 2)) (0 : Int)) := hw
      refine pz_top (y := zi (pq_ca T j2 0)) (congrArg zi (by rw [show 2 * (j2 / 2) + j2 % 2 = j2 by omega])) ?_
      have hcar := pq_ca_rg0 hok j2
      refine pz_if_ge (tgt := 71) hx hb (by omega) dL_isSo_64 (by decide) (fun c_339 => ?_) (fun c_339 => ?_)
      · refine lv_iconst (v := zi 0) hx hb dL_isSo_71 (by decide) ?_
        refine pz_iadd hx hb dL_isSo_72 ?_
        refine lv_istore (lv' := [(6, .int (zi (q + 0))), (5, .int (zi (pq_n T))), (4, .int (zi kk)), (0, .ref hh), (1, .ref q_1), (2, .int (zi e9)), (3, .int (zi j)), (7, .int (zi j2))]) hx hb dL_isSo_73 hl (by decide) rfl (fun ls hl => ?_)
        refine pz_iinc (lv' := [(7, .int (zi (j2 + 1))), (6, .int (zi (q + 0))), (5, .int (zi (pq_n T))), (4, .int (zi kk)), (0, .ref hh), (1, .ref q_1), (2, .int (zi e9)), (3, .int (zi j))]) hx hb dL_isSo_75 hl (k := 7) rfl (by decide) rfl (fun ls hl => ?_)
        refine lv_goto (tgt := 39) hx hb dL_isSo_78 (by decide) ?_
        exact ih_39 _ _ _ _ ⟨q + 0, j2 + 1, κ1_337, rfl, (by first | assumption | omega | rfl), (by rw [pq_ce_f hj2.1 (fun h => by have h9 := c_339; rw [pq_ca_E h] at h9; omega), ← hq, Int.add_zero]), hz_338, hP, hD, hS, lv_sub hl [2, 3, 4, 5, 6, 7, 1, 0] rfl⟩ (by omega)
      · refine lv_iconst (v := zi 1) hx hb dL_isSo_67 (by decide) ?_
        refine lv_goto (tgt := 72) hx hb dL_isSo_68 (by decide) ?_
        refine pz_iadd hx hb dL_isSo_72 ?_
        refine lv_istore (lv' := [(6, .int (zi (q + 1))), (5, .int (zi (pq_n T))), (4, .int (zi kk)), (0, .ref hh), (1, .ref q_1), (2, .int (zi e9)), (3, .int (zi j)), (7, .int (zi j2))]) hx hb dL_isSo_73 hl (by decide) rfl (fun ls hl => ?_)
        refine pz_iinc (lv' := [(7, .int (zi (j2 + 1))), (6, .int (zi (q + 1))), (5, .int (zi (pq_n T))), (4, .int (zi kk)), (0, .ref hh), (1, .ref q_1), (2, .int (zi e9)), (3, .int (zi j))]) hx hb dL_isSo_75 hl (k := 7) rfl (by decide) rfl (fun ls hl => ?_)
        refine lv_goto (tgt := 39) hx hb dL_isSo_78 (by decide) ?_
        exact ih_39 _ _ _ _ ⟨q + 1, j2 + 1, κ1_337, rfl, (by first | assumption | omega | rfl), (by rw [pq_ce_t hj2.1 (Classical.not_not.mp (fun h => by have h9 := c_339; rw [pq_ca_0 h] at h9; have := pq_nE hok h; omega)), ← hq]), hz_338, hP, hD, hS, lv_sub hl [2, 3, 4, 5, 6, 7, 1, 0] rfl⟩ (by omega)
