/-! what a walk knows of the start beside its own world: two statics of Throwable, the empty row of every new list, the classes of rows of references, how an iterator is asked, the texts of the exceptions -/
def zz_AOA (U : State) : Prop := (Cond.arrayOver (.array .int)).before #[] U = true
def zB (a0 : Nat) (A : Nat → Prop) (U : State) (H : Heap) : Prop :=
  vx_Zq Bundle.tN "UNASSIGNED_STACK" Bundle.steD A U H ∧ vx_Zq Bundle.tN "SUPPRESSED_SENTINEL" Bundle.listD A U H ∧
  va_Z "java/util/ArrayList" "DEFAULTCAPACITY_EMPTY_ELEMENTDATA" "[Ljava/lang/Object;" (.ref a0) A U H ∧ va_T (.object "java/lang/Object") a0 0 (fun _ => .null) A U H ∧
  va_AO "Haltingale$Machine" U ∧ va_AO "Haltingale$Tag" U ∧ va_AO "java/lang/Object" U ∧ zz_AOA U ∧
  va_Fw RJx35411 ⟨"java/util/Iterator", "hasNext", "()Z"⟩ yJx35411_hasNext_aae02 U ∧
  (∃ a : Nat, vk_R RX7 294 "a number is out of its range" a U) ∧ (∃ a : Nat, vk_R RX7 303 "there is no such machine" a U) ∧ (∃ a : Nat, vk_R RX7 308 "there is no such tag" a U) ∧ va_Nw (.fieldLinkNest RJx35411 28 "java/util/ArrayList" "size" "I" "java/util/ArrayList") U ∧ va_Nw (.castable "[I" "java/lang/Object") U ∧ va_Nw (.castable "HaltingaleModel$Machine" "java/lang/Object") U ∧ va_Nw (.declares (Bundle.initS "java/lang/RuntimeException")) U ∧ va_Nw (.declares (Bundle.initS "java/lang/Exception")) U ∧ va_Nw (.declares (Bundle.initS "java/lang/Throwable")) U
theorem zB.un {a0 : Nat} {A : Nat → Prop} {U : State} {H : Heap} (h : zB a0 A U H) : vx_Zq Bundle.tN "UNASSIGNED_STACK" Bundle.steD A U H := h.1
theorem zB.su {a0 : Nat} {A : Nat → Prop} {U : State} {H : Heap} (h : zB a0 A U H) : vx_Zq Bundle.tN "SUPPRESSED_SENTINEL" Bundle.listD A U H := h.2.1
theorem zB.st {a0 : Nat} {A : Nat → Prop} {U : State} {H : Heap} (h : zB a0 A U H) : va_Z "java/util/ArrayList" "DEFAULTCAPACITY_EMPTY_ELEMENTDATA" "[Ljava/lang/Object;" (.ref a0) A U H := h.2.2.1
theorem zB.ar {a0 : Nat} {A : Nat → Prop} {U : State} {H : Heap} (h : zB a0 A U H) : va_T (.object "java/lang/Object") a0 0 (fun _ => .null) A U H := h.2.2.2.1
theorem zB.aoM {a0 : Nat} {A : Nat → Prop} {U : State} {H : Heap} (h : zB a0 A U H) : va_AO "Haltingale$Machine" U := h.2.2.2.2.1
theorem zB.aoT {a0 : Nat} {A : Nat → Prop} {U : State} {H : Heap} (h : zB a0 A U H) : va_AO "Haltingale$Tag" U := h.2.2.2.2.2.1
theorem zB.aoO {a0 : Nat} {A : Nat → Prop} {U : State} {H : Heap} (h : zB a0 A U H) : va_AO "java/lang/Object" U := h.2.2.2.2.2.2.1
theorem zB.aoI {a0 : Nat} {A : Nat → Prop} {U : State} {H : Heap} (h : zB a0 A U H) : zz_AOA U := h.2.2.2.2.2.2.2.1
theorem zB.fwN {a0 : Nat} {A : Nat → Prop} {U : State} {H : Heap} (h : zB a0 A U H) : va_Fw RJx35411 ⟨"java/util/Iterator", "hasNext", "()Z"⟩ yJx35411_hasNext_aae02 U := h.2.2.2.2.2.2.2.2.1
theorem zB.sIAE {a0 : Nat} {A : Nat → Prop} {U : State} {H : Heap} (h : zB a0 A U H) : ∃ a : Nat, vk_R RX7 294 "a number is out of its range" a U := h.2.2.2.2.2.2.2.2.2.1
theorem zB.sIOO {a0 : Nat} {A : Nat → Prop} {U : State} {H : Heap} (h : zB a0 A U H) : ∃ a : Nat, vk_R RX7 303 "there is no such machine" a U := h.2.2.2.2.2.2.2.2.2.2.1
theorem zB.sTag {a0 : Nat} {A : Nat → Prop} {U : State} {H : Heap} (h : zB a0 A U H) : ∃ a : Nat, vk_R RX7 308 "there is no such tag" a U := h.2.2.2.2.2.2.2.2.2.2.2.1
theorem zB.nx {a0 : Nat} {A : Nat → Prop} {U : State} {H : Heap} (h : zB a0 A U H) : va_Nw (.fieldLinkNest RJx35411 28 "java/util/ArrayList" "size" "I" "java/util/ArrayList") U := h.2.2.2.2.2.2.2.2.2.2.2.2.1
theorem zB.caI {a0 : Nat} {A : Nat → Prop} {U : State} {H : Heap} (h : zB a0 A U H) : va_Nw (.castable "[I" "java/lang/Object") U := h.2.2.2.2.2.2.2.2.2.2.2.2.2.1
theorem zB.caM {a0 : Nat} {A : Nat → Prop} {U : State} {H : Heap} (h : zB a0 A U H) : va_Nw (.castable "HaltingaleModel$Machine" "java/lang/Object") U := h.2.2.2.2.2.2.2.2.2.2.2.2.2.2.1
theorem zB.dR {a0 : Nat} {A : Nat → Prop} {U : State} {H : Heap} (h : zB a0 A U H) : va_Nw (.declares (Bundle.initS "java/lang/RuntimeException")) U := h.2.2.2.2.2.2.2.2.2.2.2.2.2.2.2.1
theorem zB.dE {a0 : Nat} {A : Nat → Prop} {U : State} {H : Heap} (h : zB a0 A U H) : va_Nw (.declares (Bundle.initS "java/lang/Exception")) U := h.2.2.2.2.2.2.2.2.2.2.2.2.2.2.2.2.1
theorem zB.dT {a0 : Nat} {A : Nat → Prop} {U : State} {H : Heap} (h : zB a0 A U H) : va_Nw (.declares (Bundle.initS "java/lang/Throwable")) U := h.2.2.2.2.2.2.2.2.2.2.2.2.2.2.2.2.2
theorem zB.kept {a0 : Nat} {A : Nat → Prop} {U : State} {H H1 : Heap} (h : zB a0 A U H) (hq : ∀ a : Nat, a < H.size → ¬ A a → H1[a]? = H[a]?) : zB a0 A U H1 := ⟨h.1.kept hq, h.2.1.kept hq, h.2.2.1.kept hq, h.2.2.2.1.kept hq, h.2.2.2.2⟩
theorem zB.narrow {a0 : Nat} {A B : Nat → Prop} {U : State} {H : Heap} (h : zB a0 A U H) (hAB : ∀ q, B q → A q) : zB a0 B U H := ⟨h.1.narrow hAB, h.2.1.narrow hAB, h.2.2.1.narrow hAB, h.2.2.2.1.narrow hAB, h.2.2.2.2⟩
/-- what the word of an array class over rows of ints says of the tables (after the library's own reading of the word for classes, Words31c.lean) -/
theorem zz_over {s : State} (h : zz_AOA s) : ∃ (comp c : ClassId) (k : Class), s.vm.findClass (FieldType.array .int).toString = some comp ∧ (s.vm.classes.findIdx? fun x => match x.kind with | .array component _ => component == comp | _ => false) = some c ∧ s.vm.classes[c]? = some k ∧ k.kind = .array comp (.array .int) ∧ s.vm.findClass ("[" ++ (FieldType.array .int).toString) = some c := by
  unfold zz_AOA at h
  simp only [Cond.before, Cond.holds, Cond.value, beq_iff_eq] at h
  cases hc : s.vm.findClass (FieldType.array .int).toString with
  | none => simp [hc] at h
  | some comp =>
    simp only [hc, Option.bind_some, Option.bind_eq_some_iff, Option.map_eq_some_iff] at h
    obtain ⟨c, hi, k, hk, hb⟩ := h
    obtain ⟨hlt, hp, -⟩ := Array.findIdx?_eq_some_iff_getElem.mp hi
    have hkk : s.vm.classes[c] = k := (Array.getElem?_eq_some_iff.mp hk).2
    rw [hkk] at hp
    cases hkind : k.kind with
    | array component ty =>
      rw [hkind] at hb hp
      simp at hb hp
      exact ⟨comp, c, k, rfl, hi, hk, by rw [hkind, hp, hb.1], hb.2⟩
    | _ => rw [hkind] at hb; simp at hb
theorem zz_AOA.moved {u U : State} (hvm : u.vm.Alike U.vm) (h : zz_AOA u) : zz_AOA U := by
  obtain ⟨comp, c, k, hcomp, hidx, hk, hkind, hname⟩ := zz_over h
  obtain ⟨k', hk', hek'⟩ := hvm.2.2 _ _ hk
  have hkind' : k'.kind = .array comp (.array .int) := by rw [hek']; exact hkind
  have hname' : U.vm.findClass ("[" ++ (FieldType.array .int).toString) = some c := by rw [hvm.findClass]; exact hname
  have hcomp' : U.vm.findClass (FieldType.array .int).toString = some comp := by rw [hvm.findClass]; exact hcomp
  unfold zz_AOA
  simp only [Cond.before, Cond.holds, Cond.value, hcomp', Option.bind_some, beq_iff_eq]
  rw [Option.bind_eq_some_iff]
  refine ⟨c, (hvm.findIdx?_eqK _ (fun _ => rfl)).trans hidx, ?_⟩
  simp [hk', hkind', hname']
theorem zz_notMH : (⟨"java/util/Iterator", "hasNext", "()Z"⟩ : MethodName).cls ≠ "java/lang/invoke/MethodHandle" ∧ (⟨"java/util/Iterator", "hasNext", "()Z"⟩ : MethodName).cls ≠ "java/lang/invoke/VarHandle" := by decide
theorem zB.to {a0 : Nat} {A : Nat → Prop} {u U : State} {H : Heap} (hvm : u.vm.Alike U.vm) (hR : ∀ (own : String) (k : Nat) (tx : String) (a : Nat), vk_R own k tx a u → vk_R own k tx a U) (hN : va_Nw (.fieldLinkNest RJx35411 28 "java/util/ArrayList" "size" "I" "java/util/ArrayList") u → va_Nw (.fieldLinkNest RJx35411 28 "java/util/ArrayList" "size" "I" "java/util/ArrayList") U) (hC : ∀ x y : String, va_Nw (.castable x y) u → va_Nw (.castable x y) U) (hDd : ∀ x : MethodName, va_Nw (.declares x) u → va_Nw (.declares x) U) (h : zB a0 A u H) : zB a0 A U H :=
  ⟨h.un.moved hvm, h.su.moved hvm, h.st.moved hvm, h.ar.moved hvm, h.aoM.moved hvm, h.aoT.moved hvm, h.aoO.moved hvm, h.aoI.moved hvm, h.fwN.moved zz_notMH hvm, h.sIAE.elim fun a q => ⟨a, hR _ _ _ _ q⟩, h.sIOO.elim fun a q => ⟨a, hR _ _ _ _ q⟩, h.sTag.elim fun a q => ⟨a, hR _ _ _ _ q⟩, hN h.nx, hC _ _ h.caI, hC _ _ h.caM, hDd _ h.dR, hDd _ h.dE, hDd _ h.dT⟩
theorem zB.warm {a0 : Nat} {A : Nat → Prop} {s U : State} {H : Heap} (hW : s.WarmedH U.vm) (h : zB a0 A s H) : zB a0 A U H := h.to hW.alike (fun _ _ _ _ q => q.warm hW) (fun q => q.warmF hW) (fun _ _ q => q.warmC hW) (fun _ q => q.warmD hW)
theorem zB.call {a0 : Nat} {A : Nat → Prop} {U : State} {H : Heap} {g : JFrame} {mk : MethodId} {a : Array Value} (h : zB a0 A U H) : zB a0 A (U.calling g mk a) H := h.to (Vm.Alike.refl U.vm) (fun _ _ _ _ q => q.same rfl) (fun q => q.same rfl rfl) (fun _ _ q => q.same rfl rfl) (fun _ q => q.same rfl rfl)
/-- a class that can be made can be cast to itself -/
theorem zz_cast {args : Array Value} {s : State} {cls : String} {n : Nat} (hi : (Cond.instantiable cls n).before args s = true) : (Cond.castable cls cls).before args s = true := by
  obtain ⟨cC, kC, hfc, hk, hkind, -⟩ := Cond.instantiable_spec hi
  have h : s.vm.assignable cC cC = true := by
    simp [Vm.assignable, Vm.assignableAux, hk, hkind, Vm.isSubclass, Vm.isSubclassAux]
  simp [Cond.before, Cond.holds, Cond.value, hfc, h]
theorem zz_hat {args : Array Value} {s : State} {Ts : List Cond} {own : String} {ic : Nat} {cls : String} {names : List String} {a0 : Nat} {A : Nat → Prop} {H : Heap} (hts : ∀ w ∈ Ts, w.before args s = true) (hZ : zB a0 A s H) (h1 : ∀ w ∈ Cond.instantiable cls 6 :: (vx_atS own ic cls names).filter goodWord, w ∈ Ts)
    (h2 : ∀ w ∈ (vx_atS own ic cls names).filter (fun w => !goodWord w), w ∈ [Cond.castable cls cls, .declares (Bundle.initS "java/lang/RuntimeException"), .declares (Bundle.initS "java/lang/Exception"), .declares (Bundle.initS "java/lang/Throwable")]) : ∀ w ∈ vx_atS own ic cls names, w.before args s = true :=
  vx_hat (fun w h => hts w (h1 w (List.mem_cons_of_mem _ h))) h2 (vx_c (zz_cast (hts _ (h1 _ List.mem_cons_self))) (vx_c (hZ.dR.use rfl) (vx_c (hZ.dE.use rfl) (vx_c (hZ.dT.use rfl) vx_n))))
theorem zz_F {A : Nat → Prop} {s t : State} {H : Heap} {locs : List Loc} (hS : va_S A s.heap H locs) (h1 : H.size ≤ t.heap.size) (h2 : ∀ q : Nat, q < H.size → t.heap[q]? = H[q]?) : va_F A s t :=
  ⟨Nat.le_trans hS.1 h1, fun q hq hn => (h2 q (Nat.lt_of_lt_of_le hq hS.1)).trans (hS.2.1 q hq hn)⟩
theorem zz_at {D : va_G} {cl : List vw_C} {tys : List (ClassId × FieldType)} {U : State} (hK : va_K D cl tys U) (c : Nat) {q : vw_C} (h : cl[c]? = some q) : ClassAt U q.1 (D.1 c) := (hK.1 c q h).2
/-- whether x is a to b, as an answer -/
def zw (x a b : Int32) : Int32 := if a ≤ x ∧ x ≤ b then 1 else 0
theorem zw_or (x a b : Int32) : zw x a b = 1 ∨ zw x a b = 0 := by
  unfold zw
  split
  · exact Or.inl rfl
  · exact Or.inr rfl
theorem zw_none (x : Int32) : zw x 0 (-1) = 0 := by
  unfold zw
  rw [if_neg]
  rintro ⟨h1, h2⟩
  have a1 := Int32.le_iff_toInt_le.mp h1
  have a2 := Int32.le_iff_toInt_le.mp h2
  have a3 : (0 : Int32).toInt = 0 := by decide
  have a4 : (-1 : Int32).toInt = -1 := by decide
  omega
theorem zz_any {x : String} {s : State} {H : Heap} {a : Nat} {cell : Cell} (hc : va_Nw (.castable x "java/lang/Object") s) (h1 : H[a]? = some cell) (h2 : cell.vm.isStatics = false) (h3 : s.vm.findClass x = some cell.cls) : va_Any "java/lang/Object" s H a := by
  obtain ⟨c3, c4, hc3, hc4, hasg⟩ := Cond.castable_spec hc
  obtain ⟨k9, h9, -⟩ := Vm.findClass_spec h3
  cases Option.some.inj (hc3.symm.trans h3)
  exact ⟨cell, h1, h2, ⟨k9, h9⟩, fun comp h => by cases Option.some.inj (hc4.symm.trans h); exact hasg⟩
theorem zz_anyI {D : va_G} {cl : List vw_C} {tys : List (ClassId × FieldType)} {ws : va_W} {s : State} {H : Heap} {a n : Nat} {cA : ClassId} {f : Nat → Int32} (hK : va_K D cl tys s) (hP : va_P D cl ws H) (q0 t0 : Nat) (he : ws[q0]? = some (a, .inl (cA, n, .inl f))) (ht : tys[t0]? = some (cA, .int)) (hc : va_Nw (.castable "[I" "java/lang/Object") s) : va_Any "java/lang/Object" s H a :=
  zz_any hc (hP q0 _ he) rfl (hK.2 t0 _ ht).2
theorem zz_anyM {D : va_G} {cl : List vw_C} {tys : List (ClassId × FieldType)} {ws : va_W} {s : State} {H : Heap} {a : Nat} {ci : Nat} {q : vw_C} {fs : List Value} (hK : va_K D cl tys s) (hP : va_P D cl ws H) (q0 : Nat) (he : ws[q0]? = some (a, .inr (ci, fs))) (hcl : cl[ci]? = some q) (hc : va_Nw (.castable q.1 "java/lang/Object") s) : va_Any "java/lang/Object" s H a := by
  obtain ⟨cell, h1, h2, h3⟩ := va_recv hK hP hcl he
  exact zz_any hc h1 h2 h3
section ZZN
variable {p : Program} {l : Launch} {e : Env} {R : Room} {s : State} {m : MethodId} {args : Array Value} {below : List Frame} {meth : Method} {c : Code} {H : Heap} {locs : List Loc} {cells slots : Nat} {Q : State → Prop}
variable {cc : ByteArray} {pc : Nat} {ls : Array Slot} {rest : List Value} {D : va_G} {cl : List vw_C} {A : Nat → Prop} {ws : va_W} {H0 : Heap}
/-- new int[n][]: the row of rows is made and not looked at again (the road of the library's anewarray for classes, Shelf/FreeArray.lean, turned to rows of ints) -/
theorem zz_newA (hexec : p.tables.exec = Jvm.exec) (hb : c.code = cc) {own : String} {index : Nat} (hown : s.vm.findClass own = some m.cls) (hclink : (Cond.classLink own index "[I").before args s = true) (hover : zz_AOA s) (hP : va_P D cl ws H) (hD : va_D A ws) (hS : va_S A H0 H locs)
    {n : Int32} {N' : Nat} (hn : ¬ n < 0) (hN : n.toNatClampNeg = N') (hbytes : N' * 4 ≤ 536870912) (hcells : cells + 1 ≤ R.cells) (hslots : slots + N' ≤ R.slots) (hdg : decode cc pc = .ok (.anewarray index, 3))
    (kk : ∀ (q : Nat) (H1 : Heap), va_P D cl ws H1 → va_D A ws → va_S A H0 H1 locs → W p l e R s m args below meth c H1 locs (cells + 1) (slots + N') Q (F0 m (pc + 3) ls (.ref q :: rest))) : W p l e R s m args below meth c H locs cells slots Q (F0 m pc ls (.int n :: rest)) := by
  subst hN
  intro T hT X
  subst hT; subst hb
  have hpl : e.platform.magicAccessors = ({} : Platform).magicAccessors := by rw [X.admits.platform]
  obtain ⟨comp, cA, kA, hcomp, hidx, hkA, hkindA, hnameA⟩ := zz_over hover
  obtain ⟨kComp, hkComp, -⟩ := Vm.findClass_spec hcomp
  obtain ⟨c9, hfcc, hcl⟩ := Cond.classLink_spec hown hclink e.platform hpl
  have hfcc' : s.vm.findClass (FieldType.array .int).toString = some c9 := hfcc
  cases hcomp.symm.trans hfcc'
  obtain ⟨hg₁, hwarm₁, hready₁⟩ := State.classEntry (e := e) X.warmed hcl
  generalize T.vm.noted m.cls index (.cls comp) = vm₁ at hg₁ hwarm₁ hready₁
  have hal : s.vm.Alike vm₁ := hwarm₁.alike
  obtain ⟨kComp₁, hkComp₁, -⟩ := hal.2.2 _ _ hkComp
  obtain ⟨kA₁, hkA₁, heA⟩ := hal.2.2 _ _ hkA
  have hkindA₁ : kA₁.kind = .array comp (.array .int) := by rw [heA]; exact hkindA
  have hidx₁ : (vm₁.classes.findIdx? fun x => match x.kind with | .array component _ => component == comp | _ => false) = some cA := by
    rw [hal.findIdx?_eqK _ (fun _ => rfl)]; exact hidx
  have hlimit : ¬ n.toNatClampNeg > e.platform.arrayLengthLimit := by rw [Launch.admits_arrayLengthLimit X.admits]; omega
  have hheap : ¬ n.toNatClampNeg * componentBytes (.array .int) > e.platform.maxHeapBytes := by
    rw [Launch.admits_maxHeapBytes X.admits]; show ¬ n.toNatClampNeg * 4 > 536870912; omega
  have X₁ := X.noted hwarm₁
  have X₂ := X₁.pushed { cls := cA, slots := Array.replicate n.toNatClampNeg .null, vm := .none }
  obtain ⟨hr1, hr2⟩ := X.roomAbove hcells hslots
  have z1 : (T.heap.push ({ cls := cA, slots := Array.replicate n.toNatClampNeg .null, vm := .none } : Cell)).size = T.heap.size + 1 := Array.size_push ..
  have o1 : ∀ q : Nat, q < T.heap.size → (T.heap.push ({ cls := cA, slots := Array.replicate n.toNatClampNeg .null, vm := .none } : Cell))[q]? = T.heap[q]? := fun q hq => by rw [Array.getElem?_push, if_neg (Nat.ne_of_lt hq)]
  obtain ⟨t, a1, b1⟩ := kk T.heap.size (T.heap.push ({ cls := cA, slots := Array.replicate n.toNatClampNeg .null, vm := .none } : Cell)) (hP.kept fun k x hx => o1 x.1 ((hP k x hx).lt)) hD ⟨Nat.le_trans hS.1 (by omega), fun x h1 h2 => (o1 x (Nat.lt_of_lt_of_le h1 hS.1)).trans (hS.2.1 x h1 h2), hS.2.2⟩ ((T.setVm vm₁).pushCell { cls := cA, slots := Array.replicate n.toNatClampNeg .null, vm := .none }) rfl (by simpa using X₂)
  refine ⟨t, ?_, b1⟩
  jvm_step X.here [hexec, hdg, anewarray.wp_cold (e := e) (s := T) (f := F0 m pc ls (.int n :: rest)) X.here.top hg₁ hready₁,
    anewarray.wp_ready (e := e) (s := T.setVm vm₁) (f := F0 m pc ls (.int n :: rest)) (kc := kComp₁) (k := kA₁) (type := .array .int) X.here.top hready₁ hkComp₁ hidx₁ hkA₁ hkindA₁ rfl rfl hn hlimit hheap]
  exact ⟨by show T.heap.size < _; omega, by show T.slotsUsed + _ ≤ _; exact hr2, a1⟩
end ZZN
/-- the law's end where nothing was drawn -/
theorem lw_ret0 {p : Program} {l : Launch} {e : Env} {s : State} {m : MethodId} {below : List Frame} {meth : Method} {c : Code} {b : Nat} (hx : p.tables.exec = Jvm.exec) (hb : c.code = code) (hr : meth.sig.returnType = ret) (hlocks : meth.locks = false) {pc : Nat} {H : Heap} {ls : Array Slot} (hdg : decode code pc = .ok (.ireturn, 1)) : W p l e room_1 s m #[Value.ref b] below meth c H [] room_1.cells room_1.slots (lw_Z below #[Value.ref b] s) (F0 m pc ls [.int 1]) :=
  lw_ret (d0 := s.drawn) (Drawn.sameBut.refl s.drawn lw_cs) hx hb hr hlocks hdg
section ZZR
variable {p : Program} {l : Launch} {e : Env} {R : Room} {s : State} {m : MethodId} {args : Array Value} {below : List Frame} {meth : Method} {c : Code} {H : Heap} {locs : List Loc} {cells slots : Nat} {Q : State → Prop}
variable {mc ms : Nat} {free : Addr → Prop} {A0 A1 : Nat → Prop} {H0 : Heap} {a : Array Value} {pc : Nat} {ls : Array Slot} {st0 rest : List Value}
/-- a call that gives a reference or throws (as vx_calli, vx_callv of the printed names) -/
theorem zz_callr {S SX : Type} {post : S → Prop} {px : SX → Prop} {B : S → Nat → State → Prop} {BX : String → SX → State → Prop} {AX : Nat → Prop} (hr : vx_Run p l e R s m args below meth c H locs cells slots mc ms (F0 m pc ls st0) rest (va_Qr post B A1 a) (vx_X px BX AX) free) (hS : va_S A0 H0 H locs) (hA : ∀ q, q < H.size → A1 q → A0 q) (hf : ∀ q, free q → A0 q) (hAX : ∀ q, q < H.size → AX q → A0 q)
    (kx : ∀ (E : String) (ce : Cell) (q9 : Addr) (u : SX) (t : State) (H1 : Heap) (locs1 : List Loc), t.heap = H1 → s.vm.Alike t.vm → px u → BX E u t → H.size ≤ H1.size → (∀ q : Nat, q < H.size → ¬ AX q → H1[q]? = H[q]?) → va_S A0 H0 H1 locs1 → H1[q9]? = some ce → ce.vm = .none → s.vm.findClass E = some ce.cls → vx_W p l e R s m args below meth c H1 locs1 (cells + mc) (slots + ms) Q (F0 m pc ls rest) q9)
    (kk : ∀ (u : S) (r : Nat) (t : State) (H1 : Heap) (locs1 : List Loc), t.heap = H1 → s.vm.Alike t.vm → post u → B u r t → H.size ≤ H1.size → (∀ q : Nat, q < H.size → ¬ A1 q → H1[q]? = H[q]?) → va_S A0 H0 H1 locs1 → W p l e R s m args below meth c H1 locs1 (cells + mc) (slots + ms) Q (F0 m (pc + 3) ls (.ref r :: rest))) : W p l e R s m args below meth c H locs cells slots Q (F0 m pc ls st0) := by
  intro T hT X
  rcases hr T hT X with ⟨v, st₀, t, T', L, h0, X', hL, e1, e2, ⟨⟨u, r, hv, hp, hb⟩, hF⟩, st⟩ | ⟨q, st₀, t, T', L, E, ce, h0, X', hL, e1, e2, ⟨u, hp, hb, hF⟩, hce, hcv, hcl, st⟩
  · cases hv
    obtain ⟨k1, k2, k3⟩ := vx_keep h0 e1 hS hA hf hL hF
    obtain ⟨t2, a1, b1⟩ := kk u r t T'.heap (locs ++ L) e1.symm (by rw [← e2]; exact X'.warmed.alike) hp hb k1 k2 k3 T' rfl X'
    exact ⟨t2, st t2 a1, b1⟩
  · obtain ⟨k1, k2, k3⟩ := vx_keep h0 e1 hS hAX hf hL hF
    obtain ⟨t2, a1, b1⟩ := kx E ce q u t T'.heap (locs ++ L) e1.symm (by rw [← e2]; exact X'.warmed.alike) hp hb k1 k2 k3 (by rw [e1]; exact hce) hcv hcl T' rfl X'
    exact ⟨t2, st.trans a1, b1⟩
end ZZR
