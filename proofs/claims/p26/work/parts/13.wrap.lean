/-! p26: whole numbers in the machine's cells, and a truth value as one -/
def zi (z : Int) : Int32 := Int32.ofInt z
noncomputable def pb (P : Prop) : Int := @ite Int P (Classical.propDecidable P) 1 0
theorem pb_t {P : Prop} (h : P) : pb P = 1 := by unfold pb; exact if_pos h
theorem pb_f {P : Prop} (h : ¬ P) : pb P = 0 := by unfold pb; exact if_neg h
theorem pb_or (P : Prop) : pb P = 0 ∨ pb P = 1 := by
  by_cases h : P
  · exact Or.inr (pb_t h)
  · exact Or.inl (pb_f h)
theorem pb_1 {P : Prop} (h : pb P = 1) : P := by
  by_cases q : P
  · exact q
  · rw [pb_f q] at h; exact absurd h (by decide)
theorem pb_0 {P : Prop} (h : pb P = 0) : ¬ P := fun q => by rw [pb_t q] at h; exact absurd h (by decide)
theorem pb_congr {P Q : Prop} (h : P ↔ Q) : pb P = pb Q := by rw [propext h]
theorem zi_toInt {z : Int} (h1 : -2147483648 ≤ z) (h2 : z ≤ 2147483647) : (zi z).toInt = z := Int32.toInt_ofInt_of_le (by omega) (by omega)
theorem zi_add (x y : Int) : zi x + zi y = zi (x + y) := (Int32.ofInt_add x y).symm
theorem zi_sub (x y : Int) : zi x - zi y = zi (x - y) := (Int32.ofInt_sub x y).symm
theorem zi_mul (x y : Int) : zi x * zi y = zi (x * y) := (Int32.ofInt_mul x y).symm
theorem zi_neg (x : Int) : - zi x = zi (- x) := (Int32.ofInt_neg x).symm
theorem zi_le {x y : Int} (h : (-2147483648 ≤ x ∧ x ≤ 2147483647) ∧ (-2147483648 ≤ y ∧ y ≤ 2147483647)) : zi x ≤ zi y ↔ x ≤ y := by
  rw [Int32.le_iff_toInt_le, zi_toInt h.1.1 h.1.2, zi_toInt h.2.1 h.2.2]
theorem zi_lt {x y : Int} (h : (-2147483648 ≤ x ∧ x ≤ 2147483647) ∧ (-2147483648 ≤ y ∧ y ≤ 2147483647)) : zi x < zi y ↔ x < y := by
  rw [Int32.lt_iff_toInt_lt, zi_toInt h.1.1 h.1.2, zi_toInt h.2.1 h.2.2]
theorem zi_eq {x y : Int} (h : (-2147483648 ≤ x ∧ x ≤ 2147483647) ∧ (-2147483648 ≤ y ∧ y ≤ 2147483647)) : zi x = zi y ↔ x = y := by
  rw [← Int32.toInt_inj, zi_toInt h.1.1 h.1.2, zi_toInt h.2.1 h.2.2]
theorem zi_zero : zi 0 = 0 := by decide
theorem zi_clamp {z : Int} (h1 : 0 ≤ z) (h2 : z ≤ 2147483647) : (zi z).toNatClampNeg = z.toNat := Int32.toNatClampNeg_ofInt_of_le (by omega) (by omega)
theorem zi_in {z : Int} {n : Nat} (h1 : 0 ≤ z) (h2 : z < n) (h3 : z ≤ 2147483647) : vp_in (zi z) n := by
  intro h
  rcases h with h | h
  · rw [← zi_zero, zi_lt ⟨⟨by omega, h3⟩, by omega⟩] at h
    omega
  · rw [zi_clamp h1 h3] at h
    omega
theorem zi_div {x y : Int} (h1 : 0 ≤ x) (h2 : x ≤ 2147483647) (h3 : 0 < y) (h4 : y ≤ 2147483647) : zi x / zi y = zi (x / y) := by
  have e : zi (x.tdiv y) = zi x / zi y := Int32.ofInt_tdiv (a := x) (b := y) (by show (-2147483648 : Int) ≤ x; omega) (by show x ≤ (2147483647 : Int); omega) (by show (-2147483648 : Int) ≤ y; omega) (by show y ≤ (2147483647 : Int); omega)
  rw [← e, Int.tdiv_eq_ediv_of_nonneg h1]
theorem zi_rem {x y : Int} (h1 : 0 ≤ x) (h2 : x ≤ 2147483647) (h3 : 0 < y) (h4 : y ≤ 2147483647) : zi x - zi x / zi y * zi y = zi (x % y) := by
  rw [zi_div h1 h2 h3 h4, zi_mul, zi_sub]
  congr 1
  have := Int.emod_add_mul_ediv x y
  have e : x / y * y = y * (x / y) := Int.mul_comm ..
  omega
theorem zi_ne0 {y : Int} (h3 : 0 < y) (h4 : y ≤ 2147483647) : ¬ zi y = 0 := by
  rw [← zi_zero, zi_eq ⟨⟨by omega, h4⟩, by omega⟩]
  omega
theorem zi_max {x y : Int} (h : (-2147483648 ≤ x ∧ x ≤ 2147483647) ∧ (-2147483648 ≤ y ∧ y ≤ 2147483647)) : (if zi x < zi y then zi y else zi x) = zi (max x y) := by
  by_cases q : x < y
  · rw [if_pos ((zi_lt h).mpr q)]; congr 1; omega
  · rw [if_neg (fun z => q ((zi_lt h).mp z))]; congr 1; omega
theorem zi_min {x y : Int} (h : (-2147483648 ≤ x ∧ x ≤ 2147483647) ∧ (-2147483648 ≤ y ∧ y ≤ 2147483647)) : (if zi y < zi x then zi y else zi x) = zi (min x y) := by
  by_cases q : y < x
  · rw [if_pos ((zi_lt h.symm).mpr q)]; congr 1; omega
  · rw [if_neg (fun z => q ((zi_lt h.symm).mp z))]; congr 1; omega
def zf (g : Nat → Int) : Nat → Int32 := fun k => zi (g k)
theorem zf_u (g : Nat → Int) (k : Nat) (y : Int) : upd (zf g) k (zi y) = zf (pz_u g k y) := by
  funext j
  unfold zf pz_u
  by_cases h : j = k
  · simp [upd, h]
  · simp [upd, h]
/-- the tape in its row: place z at z + 501 -/
def pz_tp (t : Int → Int) : Nat → Int := fun k => t ((k : Int) - 501)
theorem pz_tp_at (t : Int → Int) {z : Int} (h : 0 ≤ z) : pz_tp t z.toNat = t (z - 501) := by
  unfold pz_tp
  rw [Int.toNat_of_nonneg h]
theorem pz_tp_u (t : Int → Int) {z y : Int} (h : 0 ≤ z) : pz_u (pz_tp t) z.toNat y = pz_tp (pq_up t (z - 501) y) := by
  funext j
  unfold pz_u pz_tp pq_up
  by_cases e : j = z.toNat
  · rw [if_pos e, if_pos (by omega)]
  · rw [if_neg e, if_neg (by omega)]
section PZR
variable {p : Program} {l : Launch} {e : Env} {R : Room} {s : State} {m : MethodId} {args : Array Value} {below : List Frame} {meth : Method} {c : Code} {H : Heap} {locs : List Loc} {cells slots : Nat} {Q : State → Prop}
variable {cc : ByteArray} {pc : Nat} {ls : Array Slot} {rest : List Value} {D : va_G} {cl : List vw_C} {A : Nat → Prop} {ws : va_W} {H0 : Heap} {tys : List (ClassId × FieldType)} {a : Nat}
theorem pz_top {x y : Int32} (h : x = y) (k : W p l e R s m args below meth c H locs cells slots Q (F0 m pc ls (.int y :: rest))) : W p l e R s m args below meth c H locs cells slots Q (F0 m pc ls (.int x :: rest)) := by rw [h]; exact k
theorem pz_iadd (hx : p.tables.exec = Jvm.exec) (hb : c.code = cc) {x y : Int} (hdg : decode cc pc = .ok (.iadd, 1)) (k : W p l e R s m args below meth c H locs cells slots Q (F0 m (pc + 1) ls (.int (zi (x + y)) :: rest))) : W p l e R s m args below meth c H locs cells slots Q (F0 m pc ls (.int (zi y) :: .int (zi x) :: rest)) :=
  lv_iadd hx hb hdg (pz_top (zi_add x y) k)
theorem pz_isub (hx : p.tables.exec = Jvm.exec) (hb : c.code = cc) {x y : Int} (hdg : decode cc pc = .ok (.isub, 1)) (k : W p l e R s m args below meth c H locs cells slots Q (F0 m (pc + 1) ls (.int (zi (x - y)) :: rest))) : W p l e R s m args below meth c H locs cells slots Q (F0 m pc ls (.int (zi y) :: .int (zi x) :: rest)) :=
  lv_isub hx hb hdg (pz_top (zi_sub x y) k)
theorem pz_imul (hx : p.tables.exec = Jvm.exec) (hb : c.code = cc) {x y : Int} (hdg : decode cc pc = .ok (.imul, 1)) (k : W p l e R s m args below meth c H locs cells slots Q (F0 m (pc + 1) ls (.int (zi (x * y)) :: rest))) : W p l e R s m args below meth c H locs cells slots Q (F0 m pc ls (.int (zi y) :: .int (zi x) :: rest)) :=
  lv_imul hx hb hdg (pz_top (zi_mul x y) k)
theorem pz_ineg (hx : p.tables.exec = Jvm.exec) (hb : c.code = cc) {x : Int} (hdg : decode cc pc = .ok (.ineg, 1)) (k : W p l e R s m args below meth c H locs cells slots Q (F0 m (pc + 1) ls (.int (zi (- x)) :: rest))) : W p l e R s m args below meth c H locs cells slots Q (F0 m pc ls (.int (zi x) :: rest)) :=
  lv_ineg hx hb hdg (pz_top (zi_neg x) k)
theorem pz_idiv (hx : p.tables.exec = Jvm.exec) (hb : c.code = cc) {x y : Int} (hr : (0 ≤ x ∧ x ≤ 2147483647) ∧ 0 < y ∧ y ≤ 2147483647) (hdg : decode cc pc = .ok (.idiv, 1)) (k : W p l e R s m args below meth c H locs cells slots Q (F0 m (pc + 1) ls (.int (zi (x / y)) :: rest))) : W p l e R s m args below meth c H locs cells slots Q (F0 m pc ls (.int (zi y) :: .int (zi x) :: rest)) :=
  lv_idiv hx hb hdg (zi_ne0 hr.2.1 hr.2.2) (pz_top (zi_div hr.1.1 hr.1.2 hr.2.1 hr.2.2) k)
theorem pz_irem (hx : p.tables.exec = Jvm.exec) (hb : c.code = cc) {x y : Int} (hr : (0 ≤ x ∧ x ≤ 2147483647) ∧ 0 < y ∧ y ≤ 2147483647) (hdg : decode cc pc = .ok (.irem, 1)) (k : W p l e R s m args below meth c H locs cells slots Q (F0 m (pc + 1) ls (.int (zi (x % y)) :: rest))) : W p l e R s m args below meth c H locs cells slots Q (F0 m pc ls (.int (zi y) :: .int (zi x) :: rest)) :=
  lv_irem hx hb hdg (zi_ne0 hr.2.1 hr.2.2) (pz_top (zi_rem hr.1.1 hr.1.2 hr.2.1 hr.2.2) k)
theorem pz_iinc (hx : p.tables.exec = Jvm.exec) (hb : c.code = cc) {i nL k : Nat} {n x : Int} {lv lv' : List (Nat × Value)} (hdg : decode cc pc = .ok (.iinc i n, 3)) (h : lv_has ls nL lv) (hk : lv[k]? = some (i, .int (zi x))) (hn : i < nL) (hl : (i, Value.int (zi (x + n))) :: lv.filter (fun q => !(q.1 == i) && !(q.1 + 1 == i && q.2.category == 2)) = lv')
    (kk : ∀ ls' : Array Slot, lv_has ls' nL lv' → W p l e R s m args below meth c H locs cells slots Q (F0 m (pc + 3) ls' rest)) : W p l e R s m args below meth c H locs cells slots Q (F0 m pc ls rest) :=
  lv_iinc hx hb hdg h hk (zi_add x n) hn hl kk
theorem pz_icmp_eq (hx : p.tables.exec = Jvm.exec) (hb : c.code = cc) {x y : Int} {off : Int} {tgt : Nat} (hr : (-2147483648 ≤ x ∧ x ≤ 2147483647) ∧ (-2147483648 ≤ y ∧ y ≤ 2147483647)) (hdg : decode cc pc = .ok (.if_icmp .eq off, 3)) (ht : (pc : Int) + off = (tgt : Int))
    (kt : x = y → W p l e R s m args below meth c H locs cells slots Q (F0 m tgt ls rest)) (kf : ¬ x = y → W p l e R s m args below meth c H locs cells slots Q (F0 m (pc + 3) ls rest)) : W p l e R s m args below meth c H locs cells slots Q (F0 m pc ls (.int (zi y) :: .int (zi x) :: rest)) :=
  lv_icmp_eq hx hb hdg ht (fun h => kt ((zi_eq hr).mp h)) (fun h => kf (fun q => h ((zi_eq hr).mpr q)))
theorem pz_icmp_ne (hx : p.tables.exec = Jvm.exec) (hb : c.code = cc) {x y : Int} {off : Int} {tgt : Nat} (hr : (-2147483648 ≤ x ∧ x ≤ 2147483647) ∧ (-2147483648 ≤ y ∧ y ≤ 2147483647)) (hdg : decode cc pc = .ok (.if_icmp .ne off, 3)) (ht : (pc : Int) + off = (tgt : Int))
    (kt : ¬ x = y → W p l e R s m args below meth c H locs cells slots Q (F0 m tgt ls rest)) (kf : x = y → W p l e R s m args below meth c H locs cells slots Q (F0 m (pc + 3) ls rest)) : W p l e R s m args below meth c H locs cells slots Q (F0 m pc ls (.int (zi y) :: .int (zi x) :: rest)) :=
  lv_icmp_ne hx hb hdg ht (fun h => kt (fun q => h ((zi_eq hr).mpr q))) (fun h => kf ((zi_eq hr).mp h))
theorem pz_icmp_lt (hx : p.tables.exec = Jvm.exec) (hb : c.code = cc) {x y : Int} {off : Int} {tgt : Nat} (hr : (-2147483648 ≤ x ∧ x ≤ 2147483647) ∧ (-2147483648 ≤ y ∧ y ≤ 2147483647)) (hdg : decode cc pc = .ok (.if_icmp .lt off, 3)) (ht : (pc : Int) + off = (tgt : Int))
    (kt : x < y → W p l e R s m args below meth c H locs cells slots Q (F0 m tgt ls rest)) (kf : y ≤ x → W p l e R s m args below meth c H locs cells slots Q (F0 m (pc + 3) ls rest)) : W p l e R s m args below meth c H locs cells slots Q (F0 m pc ls (.int (zi y) :: .int (zi x) :: rest)) :=
  lv_icmp_lt hx hb hdg ht (fun h => kt ((zi_lt hr).mp h)) (fun h => kf (Int.not_lt.mp (fun q => h ((zi_lt hr).mpr q))))
theorem pz_icmp_ge (hx : p.tables.exec = Jvm.exec) (hb : c.code = cc) {x y : Int} {off : Int} {tgt : Nat} (hr : (-2147483648 ≤ x ∧ x ≤ 2147483647) ∧ (-2147483648 ≤ y ∧ y ≤ 2147483647)) (hdg : decode cc pc = .ok (.if_icmp .ge off, 3)) (ht : (pc : Int) + off = (tgt : Int))
    (kt : y ≤ x → W p l e R s m args below meth c H locs cells slots Q (F0 m tgt ls rest)) (kf : x < y → W p l e R s m args below meth c H locs cells slots Q (F0 m (pc + 3) ls rest)) : W p l e R s m args below meth c H locs cells slots Q (F0 m pc ls (.int (zi y) :: .int (zi x) :: rest)) :=
  lv_icmp_ge hx hb hdg ht (fun h => kt ((zi_le hr.symm).mp h)) (fun h => kf (Int.not_le.mp (fun q => h ((zi_le hr.symm).mpr q))))
theorem pz_icmp_gt (hx : p.tables.exec = Jvm.exec) (hb : c.code = cc) {x y : Int} {off : Int} {tgt : Nat} (hr : (-2147483648 ≤ x ∧ x ≤ 2147483647) ∧ (-2147483648 ≤ y ∧ y ≤ 2147483647)) (hdg : decode cc pc = .ok (.if_icmp .gt off, 3)) (ht : (pc : Int) + off = (tgt : Int))
    (kt : y < x → W p l e R s m args below meth c H locs cells slots Q (F0 m tgt ls rest)) (kf : x ≤ y → W p l e R s m args below meth c H locs cells slots Q (F0 m (pc + 3) ls rest)) : W p l e R s m args below meth c H locs cells slots Q (F0 m pc ls (.int (zi y) :: .int (zi x) :: rest)) :=
  lv_icmp_gt hx hb hdg ht (fun h => kt ((zi_lt hr.symm).mp h)) (fun h => kf (Int.not_lt.mp (fun q => h ((zi_lt hr.symm).mpr q))))
theorem pz_icmp_le (hx : p.tables.exec = Jvm.exec) (hb : c.code = cc) {x y : Int} {off : Int} {tgt : Nat} (hr : (-2147483648 ≤ x ∧ x ≤ 2147483647) ∧ (-2147483648 ≤ y ∧ y ≤ 2147483647)) (hdg : decode cc pc = .ok (.if_icmp .le off, 3)) (ht : (pc : Int) + off = (tgt : Int))
    (kt : x ≤ y → W p l e R s m args below meth c H locs cells slots Q (F0 m tgt ls rest)) (kf : y < x → W p l e R s m args below meth c H locs cells slots Q (F0 m (pc + 3) ls rest)) : W p l e R s m args below meth c H locs cells slots Q (F0 m pc ls (.int (zi y) :: .int (zi x) :: rest)) :=
  lv_icmp_le hx hb hdg ht (fun h => kt ((zi_le hr).mp h)) (fun h => kf (Int.not_le.mp (fun q => h ((zi_le hr).mpr q))))
theorem pz_if_eq (hx : p.tables.exec = Jvm.exec) (hb : c.code = cc) {x : Int} {off : Int} {tgt : Nat} (hr : -2147483648 ≤ x ∧ x ≤ 2147483647) (hdg : decode cc pc = .ok (.ifCond .eq off, 3)) (ht : (pc : Int) + off = (tgt : Int))
    (kt : x = 0 → W p l e R s m args below meth c H locs cells slots Q (F0 m tgt ls rest)) (kf : ¬ x = 0 → W p l e R s m args below meth c H locs cells slots Q (F0 m (pc + 3) ls rest)) : W p l e R s m args below meth c H locs cells slots Q (F0 m pc ls (.int (zi x) :: rest)) :=
  lv_if_eq hx hb hdg ht (fun h => kt ((zi_eq (y := 0) ⟨hr, by omega⟩).mp (h.trans zi_zero.symm))) (fun h => kf (fun q => h (((zi_eq (y := 0) ⟨hr, by omega⟩).mpr q).trans zi_zero)))
theorem pz_if_ne (hx : p.tables.exec = Jvm.exec) (hb : c.code = cc) {x : Int} {off : Int} {tgt : Nat} (hr : -2147483648 ≤ x ∧ x ≤ 2147483647) (hdg : decode cc pc = .ok (.ifCond .ne off, 3)) (ht : (pc : Int) + off = (tgt : Int))
    (kt : ¬ x = 0 → W p l e R s m args below meth c H locs cells slots Q (F0 m tgt ls rest)) (kf : x = 0 → W p l e R s m args below meth c H locs cells slots Q (F0 m (pc + 3) ls rest)) : W p l e R s m args below meth c H locs cells slots Q (F0 m pc ls (.int (zi x) :: rest)) :=
  lv_if_ne hx hb hdg ht (fun h => kt (fun q => h (((zi_eq (y := 0) ⟨hr, by omega⟩).mpr q).trans zi_zero))) (fun h => kf ((zi_eq (y := 0) ⟨hr, by omega⟩).mp (h.trans zi_zero.symm)))
theorem pz_if_lt (hx : p.tables.exec = Jvm.exec) (hb : c.code = cc) {x : Int} {off : Int} {tgt : Nat} (hr : -2147483648 ≤ x ∧ x ≤ 2147483647) (hdg : decode cc pc = .ok (.ifCond .lt off, 3)) (ht : (pc : Int) + off = (tgt : Int))
    (kt : x < 0 → W p l e R s m args below meth c H locs cells slots Q (F0 m tgt ls rest)) (kf : 0 ≤ x → W p l e R s m args below meth c H locs cells slots Q (F0 m (pc + 3) ls rest)) : W p l e R s m args below meth c H locs cells slots Q (F0 m pc ls (.int (zi x) :: rest)) :=
  lv_if_lt hx hb hdg ht (fun h => kt ((zi_lt (y := 0) ⟨hr, by omega⟩).mp (by rw [zi_zero]; exact h))) (fun h => kf (Int.not_lt.mp (fun q => h (by rw [← zi_zero]; exact (zi_lt (y := 0) ⟨hr, by omega⟩).mpr q))))
theorem pz_if_ge (hx : p.tables.exec = Jvm.exec) (hb : c.code = cc) {x : Int} {off : Int} {tgt : Nat} (hr : -2147483648 ≤ x ∧ x ≤ 2147483647) (hdg : decode cc pc = .ok (.ifCond .ge off, 3)) (ht : (pc : Int) + off = (tgt : Int))
    (kt : 0 ≤ x → W p l e R s m args below meth c H locs cells slots Q (F0 m tgt ls rest)) (kf : x < 0 → W p l e R s m args below meth c H locs cells slots Q (F0 m (pc + 3) ls rest)) : W p l e R s m args below meth c H locs cells slots Q (F0 m pc ls (.int (zi x) :: rest)) :=
  lv_if_ge hx hb hdg ht (fun h => kt ((zi_le (x := 0) ⟨by omega, hr⟩).mp (by rw [zi_zero]; exact h))) (fun h => kf (Int.not_le.mp (fun q => h (by rw [← zi_zero]; exact (zi_le (x := 0) ⟨by omega, hr⟩).mpr q))))
theorem pz_if_gt (hx : p.tables.exec = Jvm.exec) (hb : c.code = cc) {x : Int} {off : Int} {tgt : Nat} (hr : -2147483648 ≤ x ∧ x ≤ 2147483647) (hdg : decode cc pc = .ok (.ifCond .gt off, 3)) (ht : (pc : Int) + off = (tgt : Int))
    (kt : 0 < x → W p l e R s m args below meth c H locs cells slots Q (F0 m tgt ls rest)) (kf : x ≤ 0 → W p l e R s m args below meth c H locs cells slots Q (F0 m (pc + 3) ls rest)) : W p l e R s m args below meth c H locs cells slots Q (F0 m pc ls (.int (zi x) :: rest)) :=
  lv_if_gt hx hb hdg ht (fun h => kt ((zi_lt (x := 0) ⟨by omega, hr⟩).mp (by rw [zi_zero]; exact h))) (fun h => kf (Int.not_lt.mp (fun q => h (by rw [← zi_zero]; exact (zi_lt (x := 0) ⟨by omega, hr⟩).mpr q))))
theorem pz_if_le (hx : p.tables.exec = Jvm.exec) (hb : c.code = cc) {x : Int} {off : Int} {tgt : Nat} (hr : -2147483648 ≤ x ∧ x ≤ 2147483647) (hdg : decode cc pc = .ok (.ifCond .le off, 3)) (ht : (pc : Int) + off = (tgt : Int))
    (kt : x ≤ 0 → W p l e R s m args below meth c H locs cells slots Q (F0 m tgt ls rest)) (kf : 0 < x → W p l e R s m args below meth c H locs cells slots Q (F0 m (pc + 3) ls rest)) : W p l e R s m args below meth c H locs cells slots Q (F0 m pc ls (.int (zi x) :: rest)) :=
  lv_if_le hx hb hdg ht (fun h => kt ((zi_le (y := 0) ⟨hr, by omega⟩).mp (by rw [zi_zero]; exact h))) (fun h => kf (Int.not_le.mp (fun q => h (by rw [← zi_zero]; exact (zi_le (y := 0) ⟨hr, by omega⟩).mpr q))))
/-- a truth value asked -/
theorem pz_ifb_eq (hx : p.tables.exec = Jvm.exec) (hb : c.code = cc) {P : Prop} {off : Int} {tgt : Nat} (hdg : decode cc pc = .ok (.ifCond .eq off, 3)) (ht : (pc : Int) + off = (tgt : Int))
    (kt : ¬ P → W p l e R s m args below meth c H locs cells slots Q (F0 m tgt ls rest)) (kf : P → W p l e R s m args below meth c H locs cells slots Q (F0 m (pc + 3) ls rest)) : W p l e R s m args below meth c H locs cells slots Q (F0 m pc ls (.int (zi (pb P)) :: rest)) :=
  pz_if_eq hx hb (by rcases pb_or P with h | h <;> omega) hdg ht (fun h => kt (pb_0 h)) (fun h => kf (pb_1 ((pb_or P).resolve_left h)))
theorem pz_ifb_ne (hx : p.tables.exec = Jvm.exec) (hb : c.code = cc) {P : Prop} {off : Int} {tgt : Nat} (hdg : decode cc pc = .ok (.ifCond .ne off, 3)) (ht : (pc : Int) + off = (tgt : Int))
    (kt : P → W p l e R s m args below meth c H locs cells slots Q (F0 m tgt ls rest)) (kf : ¬ P → W p l e R s m args below meth c H locs cells slots Q (F0 m (pc + 3) ls rest)) : W p l e R s m args below meth c H locs cells slots Q (F0 m pc ls (.int (zi (pb P)) :: rest)) :=
  pz_if_ne hx hb (by rcases pb_or P with h | h <;> omega) hdg ht (fun h => kt (pb_1 ((pb_or P).resolve_left h))) (fun h => kf (pb_0 h))
theorem pz_iald (hx : p.tables.exec = Jvm.exec) (hb : c.code = cc) (hK : va_K D cl tys s) (hP : va_P D cl ws H) (q0 t0 : Nat) {cA : ClassId} {n : Nat} {g : Nat → Int} (ha : ws[q0]? = some (a, .inl (cA, n, .inl (zf g)))) (ht : tys[t0]? = some (cA, .int)) {i : Int} (hi : 0 ≤ i ∧ i < (n : Int) ∧ i ≤ 2147483647) (hdg : decode cc pc = .ok (.iaload, 1))
    (kk : W p l e R s m args below meth c H locs cells slots Q (F0 m (pc + 1) ls (.int (zi (g i.toNat)) :: rest))) : W p l e R s m args below meth c H locs cells slots Q (F0 m pc ls (.int (zi i) :: .ref a :: rest)) :=
  va_iald hx hb hK hP q0 t0 ha ht (zi_in hi.1 hi.2.1 hi.2.2) hdg (by rw [zi_clamp hi.1 hi.2.2]; exact kk)
theorem pz_iast (hx : p.tables.exec = Jvm.exec) (hb : c.code = cc) (hK : va_K D cl tys s) (hP : va_P D cl ws H) (hD : va_D A ws) (hS : va_S A H0 H locs) (q0 t0 : Nat) {cA : ClassId} {n : Nat} {g : Nat → Int} (ha : ws[q0]? = some (a, .inl (cA, n, .inl (zf g)))) (ht : tys[t0]? = some (cA, .int)) {i x : Int} (hi : 0 ≤ i ∧ i < (n : Int) ∧ i ≤ 2147483647) (hdg : decode cc pc = .ok (.iastore, 1))
    (kk : ∀ (H1 : Heap) (locs1 : List Loc), va_P D cl (ws.set q0 (a, .inl (cA, n, .inl (zf (pz_u g i.toNat x))))) H1 → va_D A (ws.set q0 (a, .inl (cA, n, .inl (zf (pz_u g i.toNat x))))) → va_S A H0 H1 locs1 → W p l e R s m args below meth c H1 locs1 cells slots Q (F0 m (pc + 1) ls rest)) : W p l e R s m args below meth c H locs cells slots Q (F0 m pc ls (.int (zi x) :: .int (zi i) :: .ref a :: rest)) :=
  va_iast hx hb hK hP hD hS q0 t0 ha ht (zi_in hi.1 hi.2.1 hi.2.2) hdg (by rw [zi_clamp hi.1 hi.2.2, zf_u]; exact kk)
/-- a loop: from its head, whenever what it keeps holds; n falls on every way round -/
theorem pz_loop (Inv : Nat → Heap → List Loc → Array Slot → Prop)
    (body : ∀ (n : Nat) (H : Heap) (locs : List Loc) (ls : Array Slot), Inv n H locs ls → (∀ (k : Nat) (H' : Heap) (locs' : List Loc) (ls' : Array Slot), Inv k H' locs' ls' → k < n → W p l e R s m args below meth c H' locs' cells slots Q (F0 m pc ls' rest)) → W p l e R s m args below meth c H locs cells slots Q (F0 m pc ls rest))
    (n : Nat) (h : Inv n H locs ls) : W p l e R s m args below meth c H locs cells slots Q (F0 m pc ls rest) := by
  have key : ∀ (n : Nat) (H : Heap) (locs : List Loc) (ls : Array Slot), Inv n H locs ls → W p l e R s m args below meth c H locs cells slots Q (F0 m pc ls rest) := by
    intro n
    induction n using Nat.strongRecOn with
    | ind n ih => exact fun H locs ls hI => body n H locs ls hI (fun k H' locs' ls' hk hlt => ih k hlt H' locs' ls' hk)
  exact key n H locs ls h
/-- the same where the room that is used grows -/
theorem pz_loopR (Inv : Nat → Nat → Nat → Heap → List Loc → Array Slot → Prop)
    (body : ∀ (n cells slots : Nat) (H : Heap) (locs : List Loc) (ls : Array Slot), Inv n cells slots H locs ls → (∀ (k c2 s2 : Nat) (H' : Heap) (locs' : List Loc) (ls' : Array Slot), Inv k c2 s2 H' locs' ls' → k < n → W p l e R s m args below meth c H' locs' c2 s2 Q (F0 m pc ls' rest)) → W p l e R s m args below meth c H locs cells slots Q (F0 m pc ls rest))
    (n : Nat) (h : Inv n cells slots H locs ls) : W p l e R s m args below meth c H locs cells slots Q (F0 m pc ls rest) := by
  have key : ∀ (n cells slots : Nat) (H : Heap) (locs : List Loc) (ls : Array Slot), Inv n cells slots H locs ls → W p l e R s m args below meth c H locs cells slots Q (F0 m pc ls rest) := by
    intro n
    induction n using Nat.strongRecOn with
    | ind n ih => exact fun cells slots H locs ls hI => body n cells slots H locs ls hI (fun k c2 s2 H' locs' ls' hk hlt => ih k hlt c2 s2 H' locs' ls' hk)
  exact key n cells slots H locs ls h
end PZR
