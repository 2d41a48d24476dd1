/-! p26: the rest of the rows for whole numbers: rows of booleans, rows of bits, rows of references, new rows -/
abbrev zT4 (cI cZ cM cT : ClassId) : List (ClassId × FieldType) := [(cI, .int), (cZ, .boolean), (cM, .object "Haltingale$Machine"), (cT, .object "Haltingale$Tag")]
theorem pz_narb {x : Int} (h : x = 0 ∨ x = 1) : vp_nar .boolean (zi x) = zi x := by
  rcases h with rfl | rfl <;> decide
theorem pz_nar {x : Int} (h : x = 0 ∨ x = 1) : narrow .boolean (.int (zi x)) = .int (zi x) := by
  rcases h with rfl | rfl <;> decide
def pz_uR (f : Nat → Int32) (k : Nat) (y : Int32) : Nat → Int32 := fun j => if j = k then y else f j
theorem pz_uR_upd (f : Nat → Int32) (k : Nat) (y : Int32) : upd f k y = pz_uR f k y := by
  funext j
  unfold pz_uR
  by_cases h : j = k
  · simp [upd, h]
  · simp [upd, h]
def pz_abs (x : Int) : Int := if 0 ≤ x then x else -x
theorem zi_abs {x : Int} (h : -2147483648 ≤ x ∧ x ≤ 2147483647) : (if 0 ≤ zi x then zi x else 0 - zi x) = zi (pz_abs x) := by
  have e : 0 ≤ zi x ↔ 0 ≤ x := by rw [← zi_zero]; exact zi_le ⟨by omega, h⟩
  unfold pz_abs
  by_cases q : 0 ≤ x
  · rw [if_pos (e.mpr q), if_pos q]
  · rw [if_neg (fun z => q (e.mp z)), if_neg q, ← zi_zero, zi_sub]
    congr 1
    omega
section PZS
variable {p : Program} {l : Launch} {e : Env} {R : Room} {s : State} {m : MethodId} {args : Array Value} {below : List Frame} {meth : Method} {c : Code} {H : Heap} {locs : List Loc} {cells slots : Nat} {Q : State → Prop}
variable {cc : ByteArray} {pc : Nat} {ls : Array Slot} {rest : List Value} {D : va_G} {cl : List vw_C} {A : Nat → Prop} {ws : va_W} {H0 : Heap} {tys : List (ClassId × FieldType)} {a : Nat}
theorem pz_topV {x y : Value} (h : x = y) (k : W p l e R s m args below meth c H locs cells slots Q (F0 m pc ls (y :: rest))) : W p l e R s m args below meth c H locs cells slots Q (F0 m pc ls (x :: rest)) := by rw [h]; exact k
theorem pz_zald (hx : p.tables.exec = Jvm.exec) (hb : c.code = cc) (hK : va_K D cl tys s) (hP : va_P D cl ws H) (q0 t0 : Nat) {cA : ClassId} {n : Nat} {g : Nat → Int} (ha : ws[q0]? = some (a, .inl (cA, n, .inl (zf g)))) (ht : tys[t0]? = some (cA, .boolean)) {i : Int} (hi : 0 ≤ i ∧ i < (n : Int) ∧ i ≤ 2147483647) (hdg : decode cc pc = .ok (.baload, 1))
    (kk : W p l e R s m args below meth c H locs cells slots Q (F0 m (pc + 1) ls (.int (zi (g i.toNat)) :: rest))) : W p l e R s m args below meth c H locs cells slots Q (F0 m pc ls (.int (zi i) :: .ref a :: rest)) :=
  va_zald hx hb hK hP q0 t0 ha ht (zi_in hi.1 hi.2.1 hi.2.2) hdg (by rw [zi_clamp hi.1 hi.2.2]; exact kk)
theorem pz_zast (hx : p.tables.exec = Jvm.exec) (hb : c.code = cc) (hK : va_K D cl tys s) (hP : va_P D cl ws H) (hD : va_D A ws) (hS : va_S A H0 H locs) (q0 t0 : Nat) {cA : ClassId} {n : Nat} {g : Nat → Int} (ha : ws[q0]? = some (a, .inl (cA, n, .inl (zf g)))) (ht : tys[t0]? = some (cA, .boolean)) {i x : Int} (hi : 0 ≤ i ∧ i < (n : Int) ∧ i ≤ 2147483647) (h01 : x = 0 ∨ x = 1) (hdg : decode cc pc = .ok (.bastore, 1))
    (kk : ∀ (H1 : Heap) (locs1 : List Loc), va_P D cl (ws.set q0 (a, .inl (cA, n, .inl (zf (pz_u g i.toNat x))))) H1 → va_D A (ws.set q0 (a, .inl (cA, n, .inl (zf (pz_u g i.toNat x))))) → va_S A H0 H1 locs1 → W p l e R s m args below meth c H1 locs1 cells slots Q (F0 m (pc + 1) ls rest)) : W p l e R s m args below meth c H locs cells slots Q (F0 m pc ls (.int (zi x) :: .int (zi i) :: .ref a :: rest)) :=
  va_zast hx hb hK hP hD hS q0 t0 ha ht (zi_in hi.1 hi.2.1 hi.2.2) hdg (by rw [zi_clamp hi.1 hi.2.2, pz_narb h01, zf_u]; exact kk)
theorem pz_ialdR (hx : p.tables.exec = Jvm.exec) (hb : c.code = cc) (hK : va_K D cl tys s) (hP : va_P D cl ws H) (q0 t0 : Nat) {cA : ClassId} {n : Nat} {g : Nat → Int32} (ha : ws[q0]? = some (a, .inl (cA, n, .inl g))) (ht : tys[t0]? = some (cA, .int)) {i : Int} (hi : 0 ≤ i ∧ i < (n : Int) ∧ i ≤ 2147483647) (hdg : decode cc pc = .ok (.iaload, 1))
    (kk : W p l e R s m args below meth c H locs cells slots Q (F0 m (pc + 1) ls (.int (g i.toNat) :: rest))) : W p l e R s m args below meth c H locs cells slots Q (F0 m pc ls (.int (zi i) :: .ref a :: rest)) :=
  va_iald hx hb hK hP q0 t0 ha ht (zi_in hi.1 hi.2.1 hi.2.2) hdg (by rw [zi_clamp hi.1 hi.2.2]; exact kk)
theorem pz_iastR (hx : p.tables.exec = Jvm.exec) (hb : c.code = cc) (hK : va_K D cl tys s) (hP : va_P D cl ws H) (hD : va_D A ws) (hS : va_S A H0 H locs) (q0 t0 : Nat) {cA : ClassId} {n : Nat} {g : Nat → Int32} (ha : ws[q0]? = some (a, .inl (cA, n, .inl g))) (ht : tys[t0]? = some (cA, .int)) {i : Int} {x : Int32} (hi : 0 ≤ i ∧ i < (n : Int) ∧ i ≤ 2147483647) (hdg : decode cc pc = .ok (.iastore, 1))
    (kk : ∀ (H1 : Heap) (locs1 : List Loc), va_P D cl (ws.set q0 (a, .inl (cA, n, .inl (pz_uR g i.toNat x)))) H1 → va_D A (ws.set q0 (a, .inl (cA, n, .inl (pz_uR g i.toNat x)))) → va_S A H0 H1 locs1 → W p l e R s m args below meth c H1 locs1 cells slots Q (F0 m (pc + 1) ls rest)) : W p l e R s m args below meth c H locs cells slots Q (F0 m pc ls (.int x :: .int (zi i) :: .ref a :: rest)) :=
  va_iast hx hb hK hP hD hS q0 t0 ha ht (zi_in hi.1 hi.2.1 hi.2.2) hdg (by rw [zi_clamp hi.1 hi.2.2, pz_uR_upd]; exact kk)
theorem pz_aldq (hx : p.tables.exec = Jvm.exec) (hb : c.code = cc) (hK : va_K D cl tys s) (hP : va_P D cl ws H) (q0 t0 : Nat) {cA : ClassId} {C : String} {n : Nat} {f : Nat → Option Nat} (ha : ws[q0]? = some (a, .inl (cA, n, .inr (.inr (.inr (.inr f)))))) (ht : tys[t0]? = some (cA, .object C)) {i : Int} (hi : 0 ≤ i ∧ i < (n : Int) ∧ i ≤ 2147483647) (hdg : decode cc pc = .ok (.aaload, 1))
    (kk : W p l e R s m args below meth c H locs cells slots Q (F0 m (pc + 1) ls (va_rf (f i.toNat) :: rest))) : W p l e R s m args below meth c H locs cells slots Q (F0 m pc ls (.int (zi i) :: .ref a :: rest)) :=
  va_aldq hx hb hK hP q0 t0 ha ht (zi_in hi.1 hi.2.1 hi.2.2) hdg (by rw [zi_clamp hi.1 hi.2.2]; exact kk)
theorem pz_astq (hx : p.tables.exec = Jvm.exec) (hb : c.code = cc) (hK : va_K D cl tys s) (hP : va_P D cl ws H) (hD : va_D A ws) (hS : va_S A H0 H locs) (q0 t0 qk ci : Nat) {cA : ClassId} {r : vw_C} {n v : Nat} {vs : List Value} {f : Nat → Option Nat} (ha : ws[q0]? = some (a, .inl (cA, n, .inr (.inr (.inr (.inr f)))))) (ht : tys[t0]? = some (cA, .object r.1)) (hv : ws[qk]? = some (v, .inr (ci, vs))) (hc : cl[ci]? = some r) {i : Int} (hi : 0 ≤ i ∧ i < (n : Int) ∧ i ≤ 2147483647) (hdg : decode cc pc = .ok (.aastore, 1))
    (kk : ∀ (H1 : Heap) (locs1 : List Loc), va_P D cl (ws.set q0 (a, .inl (cA, n, .inr (.inr (.inr (.inr (va_up f i.toNat (some v)))))))) H1 → va_D A (ws.set q0 (a, .inl (cA, n, .inr (.inr (.inr (.inr (va_up f i.toNat (some v)))))))) → va_S A H0 H1 locs1 → W p l e R s m args below meth c H1 locs1 cells slots Q (F0 m (pc + 1) ls rest)) : W p l e R s m args below meth c H locs cells slots Q (F0 m pc ls (.ref v :: .int (zi i) :: .ref a :: rest)) :=
  va_astq hx hb hK hP hD hS q0 t0 qk ci ha ht hv hc (zi_in hi.1 hi.2.1 hi.2.2) hdg (by rw [zi_clamp hi.1 hi.2.2]; exact kk)
theorem pz_RA_int {U : State} {c1 c2 : ClassId} {ty : FieldType} (h1 : va_RA U c1 ty) (h2 : va_RA U c2 ty) : c1 = c2 := by
  cases ty with
  | object C =>
    obtain ⟨_, _, -, -, -, e1⟩ := h1
    obtain ⟨_, _, -, -, -, e2⟩ := h2
    exact Option.some.inj (e1.symm.trans e2)
  | _ =>
    have e1 : U.vm.findClass _ = some c1 := h1
    have e2 : U.vm.findClass _ = some c2 := h2
    exact Option.some.inj (e1.symm.trans e2)
/-- the class of a new row is the one that is known -/
theorem pz_same {D : va_G} {cl : List vw_C} {tys : List (ClassId × FieldType)} {U : State} {cA c1 : ClassId} {ty : FieldType} (h : va_K D cl (tys ++ [(cA, ty)]) U) (t0 : Nat) (ht : tys[t0]? = some (c1, ty)) : cA = c1 := by
  have hl := (List.getElem?_eq_some_iff.mp ht).1
  have h1 := (h.2 t0 (c1, ty) (by rw [List.getElem?_append_left hl]; exact ht)).2
  have h2 := (h.2 tys.length (cA, ty) (by rw [List.getElem?_append_right (Nat.le_refl _), Nat.sub_self]; rfl)).2
  exact pz_RA_int h2 h1
theorem pz_newaI (hx : p.tables.exec = Jvm.exec) (hb : c.code = cc) {cI cZ cM cT : ClassId} (harr : (Cond.arrayClass .int).before args s = true) (hK : va_K D cl (zT4 cI cZ cM cT) s) (hP : va_P D cl ws H) (hD : va_D A ws) (hS : va_S A H0 H locs) (hA : ∀ q, H0.size ≤ q → A q)
    {n : Int32} {N' : Nat} (hn : ¬ n < 0) (hN : n.toNatClampNeg = N') (hbytes : N' * 4 ≤ 536870912) (hcells : cells + 1 ≤ R.cells) (hslots : slots + N' ≤ R.slots) (hdg : decode cc pc = .ok (.newarray .int, 2))
    (kk : ∀ (q : Nat) (H1 : Heap), va_P D cl (ws ++ [(q, .inl (cI, N', .inl (zf (fun _ => 0))))]) H1 → va_D A (ws ++ [(q, .inl (cI, N', .inl (zf (fun _ => 0))))]) → va_S A H0 H1 locs →
      W p l e R s m args below meth c H1 locs (cells + 1) (slots + N') Q (F0 m (pc + 2) ls (.ref q :: rest))) : W p l e R s m args below meth c H locs cells slots Q (F0 m pc ls (.int n :: rest)) :=
  va_newa (atype := .int) (ty := .int) (N' := N') (a0 := (N', .inl (zf (fun _ => 0)))) hx hb harr rfl hK hP hD hS hA (fun _ => rfl) hn hN hbytes hcells hslots hdg (fun q cA H1 hK1 hP1 hD1 hS1 => by
    have e := pz_same hK1 0 rfl
    subst e
    exact kk q H1 hP1 hD1 hS1)
theorem pz_newaZ (hx : p.tables.exec = Jvm.exec) (hb : c.code = cc) {cI cZ cM cT : ClassId} (harr : (Cond.arrayClass .boolean).before args s = true) (hK : va_K D cl (zT4 cI cZ cM cT) s) (hP : va_P D cl ws H) (hD : va_D A ws) (hS : va_S A H0 H locs) (hA : ∀ q, H0.size ≤ q → A q)
    {n : Int32} {N' : Nat} (hn : ¬ n < 0) (hN : n.toNatClampNeg = N') (hbytes : N' * 1 ≤ 536870912) (hcells : cells + 1 ≤ R.cells) (hslots : slots + N' ≤ R.slots) (hdg : decode cc pc = .ok (.newarray .boolean, 2))
    (kk : ∀ (q : Nat) (H1 : Heap), va_P D cl (ws ++ [(q, .inl (cZ, N', .inl (zf (fun _ => 0))))]) H1 → va_D A (ws ++ [(q, .inl (cZ, N', .inl (zf (fun _ => 0))))]) → va_S A H0 H1 locs →
      W p l e R s m args below meth c H1 locs (cells + 1) (slots + N') Q (F0 m (pc + 2) ls (.ref q :: rest))) : W p l e R s m args below meth c H locs cells slots Q (F0 m pc ls (.int n :: rest)) :=
  va_newa (atype := .boolean) (ty := .boolean) (N' := N') (a0 := (N', .inl (zf (fun _ => 0)))) hx hb harr rfl hK hP hD hS hA (fun _ => rfl) hn hN hbytes hcells hslots hdg (fun q cA H1 hK1 hP1 hD1 hS1 => by
    have e := pz_same hK1 1 rfl
    subst e
    exact kk q H1 hP1 hD1 hS1)
theorem pz_newqM (hx : p.tables.exec = Jvm.exec) (hb : c.code = cc) {cI cZ cM cT : ClassId} {own : String} {index : Nat} (hown : s.vm.findClass own = some m.cls) (hclink : (Cond.classLink own index "Haltingale$Machine").before args s = true) (hover : va_AO "Haltingale$Machine" s) (hK : va_K D cl (zT4 cI cZ cM cT) s) (hP : va_P D cl ws H) (hD : va_D A ws) (hS : va_S A H0 H locs) (hA : ∀ q, H0.size ≤ q → A q)
    {n : Int32} {N' : Nat} (hn : ¬ n < 0) (hN : n.toNatClampNeg = N') (hbytes : N' * 4 ≤ 536870912) (hcells : cells + 1 ≤ R.cells) (hslots : slots + N' ≤ R.slots) (hdg : decode cc pc = .ok (.anewarray index, 3))
    (kk : ∀ (q : Nat) (H1 : Heap), va_P D cl (ws ++ [(q, .inl (cM, N', .inr (.inr (.inr (.inr (fun _ => none))))))]) H1 → va_D A (ws ++ [(q, .inl (cM, N', .inr (.inr (.inr (.inr (fun _ => none))))))]) → va_S A H0 H1 locs →
      W p l e R s m args below meth c H1 locs (cells + 1) (slots + N') Q (F0 m (pc + 3) ls (.ref q :: rest))) : W p l e R s m args below meth c H locs cells slots Q (F0 m pc ls (.int n :: rest)) :=
  va_newq (C := "Haltingale$Machine") (N' := N') hx hb hown hclink hover hK hP hD hS hA hn hN hbytes hcells hslots hdg (fun q cA H1 hK1 hP1 hD1 hS1 => by
    have e := pz_same hK1 2 rfl
    subst e
    exact kk q H1 hP1 hD1 hS1)
theorem pz_newqT (hx : p.tables.exec = Jvm.exec) (hb : c.code = cc) {cI cZ cM cT : ClassId} {own : String} {index : Nat} (hown : s.vm.findClass own = some m.cls) (hclink : (Cond.classLink own index "Haltingale$Tag").before args s = true) (hover : va_AO "Haltingale$Tag" s) (hK : va_K D cl (zT4 cI cZ cM cT) s) (hP : va_P D cl ws H) (hD : va_D A ws) (hS : va_S A H0 H locs) (hA : ∀ q, H0.size ≤ q → A q)
    {n : Int32} {N' : Nat} (hn : ¬ n < 0) (hN : n.toNatClampNeg = N') (hbytes : N' * 4 ≤ 536870912) (hcells : cells + 1 ≤ R.cells) (hslots : slots + N' ≤ R.slots) (hdg : decode cc pc = .ok (.anewarray index, 3))
    (kk : ∀ (q : Nat) (H1 : Heap), va_P D cl (ws ++ [(q, .inl (cT, N', .inr (.inr (.inr (.inr (fun _ => none))))))]) H1 → va_D A (ws ++ [(q, .inl (cT, N', .inr (.inr (.inr (.inr (fun _ => none))))))]) → va_S A H0 H1 locs →
      W p l e R s m args below meth c H1 locs (cells + 1) (slots + N') Q (F0 m (pc + 3) ls (.ref q :: rest))) : W p l e R s m args below meth c H locs cells slots Q (F0 m pc ls (.int n :: rest)) :=
  va_newq (C := "Haltingale$Tag") (N' := N') hx hb hown hclink hover hK hP hD hS hA hn hN hbytes hcells hslots hdg (fun q cA H1 hK1 hP1 hD1 hS1 => by
    have e := pz_same hK1 3 rfl
    subst e
    exact kk q H1 hP1 hD1 hS1)
end PZS
