/-! what a walk knows of the start beside its own world: two statics of Throwable, the empty row of every new list, the classes of rows of references, how an iterator is asked, the texts of the exceptions -/
def zz_AOA (U : State) : Prop := (Cond.arrayOver (.array .int)).before #[] U = true
def zB (a0 : Nat) (A : Nat → Prop) (U : State) (H : Heap) : Prop :=
  vx_Zq Bundle.tN "UNASSIGNED_STACK" Bundle.steD A U H ∧ vx_Zq Bundle.tN "SUPPRESSED_SENTINEL" Bundle.listD A U H ∧
  va_Z "java/util/ArrayList" "DEFAULTCAPACITY_EMPTY_ELEMENTDATA" "[Ljava/lang/Object;" (.ref a0) A U H ∧ va_T (.object "java/lang/Object") a0 0 (fun _ => .null) A U H ∧
  va_AO "Haltingale$Machine" U ∧ va_AO "Haltingale$Tag" U ∧ va_AO "java/lang/Object" U ∧ zz_AOA U ∧
  va_Fw RJx35411 ⟨"java/util/Iterator", "hasNext", "()Z"⟩ yJx35411_hasNext_aae02 U ∧
  (∃ a : Nat, vk_R RX7 294 "a number is out of its range" a U) ∧ (∃ a : Nat, vk_R RX7 303 "there is no such machine" a U) ∧ (∃ a : Nat, vk_R RX7 308 "there is no such tag" a U) ∧ va_Nw (.fieldLinkNest RJx35411 28 "java/util/ArrayList" "size" "I" "java/util/ArrayList") U
theorem zB.un {a0 : Nat} {A : Nat → Prop} {U : State} {H : Heap} (h : zB a0 A U H) : vx_Zq Bundle.tN "UNASSIGNED_STACK" Bundle.steD A U H := h.1
theorem zB.su {a0 : Nat} {A : Nat → Prop} {U : State} {H : Heap} (h : zB a0 A U H) : vx_Zq Bundle.tN "SUPPRESSED_SENTINEL" Bundle.listD A U H := h.2.1
theorem zB.st {a0 : Nat} {A : Nat → Prop} {U : State} {H : Heap} (h : zB a0 A U H) : va_Z "java/util/ArrayList" "DEFAULTCAPACITY_EMPTY_ELEMENTDATA" "[Ljava/lang/Object;" (.ref a0) A U H := h.2.2.1
theorem zB.ar {a0 : Nat} {A : Nat → Prop} {U : State} {H : Heap} (h : zB a0 A U H) : va_T (.object "java/lang/Object") a0 0 (fun _ => .null) A U H := h.2.2.2.1
theorem zB.aoM {a0 : Nat} {A : Nat → Prop} {U : State} {H : Heap} (h : zB a0 A U H) : va_AO "Haltingale$Machine" U := h.2.2.2.2.1
theorem zB.aoT {a0 : Nat} {A : Nat → Prop} {U : State} {H : Heap} (h : zB a0 A U H) : va_AO "Haltingale$Tag" U := h.2.2.2.2.2.1
theorem zB.aoO {a0 : Nat} {A : Nat → Prop} {U : State} {H : Heap} (h : zB a0 A U H) : va_AO "java/lang/Object" U := h.2.2.2.2.2.2.1
theorem zB.aoI {a0 : Nat} {A : Nat → Prop} {U : State} {H : Heap} (h : zB a0 A U H) : zz_AOA U := h.2.2.2.2.2.2.2.1
theorem zB.fwN {a0 : Nat} {A : Nat → Prop} {U : State} {H : Heap} (h : zB a0 A U H) : va_Fw RJx35411 ⟨"java/util/Iterator", "hasNext", "()Z"⟩ yJx35411_hasNext_aae02 U := h.2.2.2.2.2.2.2.2.1
theorem zB.sIAE {a0 : Nat} {A : Nat → Prop} {U : State} {H : Heap} (h : zB a0 A U H) : ∃ a : Nat, vk_R RX7 294 "a number is out of its range" a U := h.2.2.2.2.2.2.2.2.2.1
theorem zB.sIOO {a0 : Nat} {A : Nat → Prop} {U : State} {H : Heap} (h : zB a0 A U H) : ∃ a : Nat, vk_R RX7 303 "there is no such machine" a U := h.2.2.2.2.2.2.2.2.2.2.1
theorem zB.sTag {a0 : Nat} {A : Nat → Prop} {U : State} {H : Heap} (h : zB a0 A U H) : ∃ a : Nat, vk_R RX7 308 "there is no such tag" a U := h.2.2.2.2.2.2.2.2.2.2.2.1
theorem zB.nx {a0 : Nat} {A : Nat → Prop} {U : State} {H : Heap} (h : zB a0 A U H) : va_Nw (.fieldLinkNest RJx35411 28 "java/util/ArrayList" "size" "I" "java/util/ArrayList") U := h.2.2.2.2.2.2.2.2.2.2.2.2
theorem zB.kept {a0 : Nat} {A : Nat → Prop} {U : State} {H H1 : Heap} (h : zB a0 A U H) (hq : ∀ a : Nat, a < H.size → ¬ A a → H1[a]? = H[a]?) : zB a0 A U H1 := ⟨h.1.kept hq, h.2.1.kept hq, h.2.2.1.kept hq, h.2.2.2.1.kept hq, h.2.2.2.2⟩
theorem zB.narrow {a0 : Nat} {A B : Nat → Prop} {U : State} {H : Heap} (h : zB a0 A U H) (hAB : ∀ q, B q → A q) : zB a0 B U H := ⟨h.1.narrow hAB, h.2.1.narrow hAB, h.2.2.1.narrow hAB, h.2.2.2.1.narrow hAB, h.2.2.2.2⟩
theorem zz_AOA.moved {u U : State} (hvm : u.vm.Alike U.vm) (h : zz_AOA u) : zz_AOA U := by
  sorry
theorem zz_notMH : (⟨"java/util/Iterator", "hasNext", "()Z"⟩ : MethodName).cls ≠ "java/lang/invoke/MethodHandle" ∧ (⟨"java/util/Iterator", "hasNext", "()Z"⟩ : MethodName).cls ≠ "java/lang/invoke/VarHandle" := by decide
theorem zB.to {a0 : Nat} {A : Nat → Prop} {u U : State} {H : Heap} (hvm : u.vm.Alike U.vm) (hR : ∀ (own : String) (k : Nat) (tx : String) (a : Nat), vk_R own k tx a u → vk_R own k tx a U) (hN : va_Nw (.fieldLinkNest RJx35411 28 "java/util/ArrayList" "size" "I" "java/util/ArrayList") u → va_Nw (.fieldLinkNest RJx35411 28 "java/util/ArrayList" "size" "I" "java/util/ArrayList") U) (h : zB a0 A u H) : zB a0 A U H :=
  ⟨h.un.moved hvm, h.su.moved hvm, h.st.moved hvm, h.ar.moved hvm, h.aoM.moved hvm, h.aoT.moved hvm, h.aoO.moved hvm, h.aoI.moved hvm, h.fwN.moved zz_notMH hvm, h.sIAE.elim fun a q => ⟨a, hR _ _ _ _ q⟩, h.sIOO.elim fun a q => ⟨a, hR _ _ _ _ q⟩, h.sTag.elim fun a q => ⟨a, hR _ _ _ _ q⟩, hN h.nx⟩
theorem zB.warm {a0 : Nat} {A : Nat → Prop} {s U : State} {H : Heap} (hW : s.WarmedH U.vm) (h : zB a0 A s H) : zB a0 A U H := h.to hW.alike (fun _ _ _ _ q => q.warm hW) (fun q => q.warmF hW)
theorem zB.call {a0 : Nat} {A : Nat → Prop} {U : State} {H : Heap} {g : JFrame} {mk : MethodId} {a : Array Value} (h : zB a0 A U H) : zB a0 A (U.calling g mk a) H := h.to (Vm.Alike.refl U.vm) (fun _ _ _ _ q => q.same rfl) (fun q => q.same rfl rfl)
/-- a class that can be made can be cast to itself -/
theorem zz_cast {args : Array Value} {s : State} {cls : String} {n : Nat} (hi : (Cond.instantiable cls n).before args s = true) : (Cond.castable cls cls).before args s = true := by
  obtain ⟨cC, kC, hfc, hk, hkind, -⟩ := Cond.instantiable_spec hi
  have h : s.vm.assignable cC cC = true := by
    simp [Vm.assignable, Vm.assignableAux, hk, hkind, Vm.isSubclass, Vm.isSubclassAux]
  simp [Cond.before, Cond.holds, Cond.value, hfc, h]
theorem zz_hat {args : Array Value} {s : State} {Ts : List Cond} {own : String} {ic : Nat} {cls : String} {names : List String} (hts : ∀ w ∈ Ts, w.before args s = true) (h1 : ∀ w ∈ Cond.instantiable cls 6 :: (vx_atS own ic cls names).filter goodWord, w ∈ Ts)
    (h2 : ∀ w ∈ (vx_atS own ic cls names).filter (fun w => !goodWord w), w = .castable cls cls) : ∀ w ∈ vx_atS own ic cls names, w.before args s = true :=
  vx_hat (B := [.castable cls cls]) (fun w h => hts w (h1 w (List.mem_cons_of_mem _ h))) (fun w h => by rw [h2 w h]; exact List.mem_cons_self) (vx_c (zz_cast (hts _ (h1 _ List.mem_cons_self))) vx_n)
theorem zz_F {A : Nat → Prop} {s t : State} {H : Heap} {locs : List Loc} (hS : va_S A s.heap H locs) (h1 : H.size ≤ t.heap.size) (h2 : ∀ q : Nat, q < H.size → t.heap[q]? = H[q]?) : va_F A s t :=
  ⟨Nat.le_trans hS.1 h1, fun q hq hn => (h2 q (Nat.lt_of_lt_of_le hq hS.1)).trans (hS.2.1 q hq hn)⟩
theorem zz_at {D : va_G} {cl : List vw_C} {tys : List (ClassId × FieldType)} {U : State} (hK : va_K D cl tys U) (c : Nat) {q : vw_C} (h : cl[c]? = some q) : ClassAt U q.1 (D.1 c) := (hK.1 c q h).2
/-- whether x is a to b, as an answer -/
def zw (x a b : Int32) : Int32 := if a ≤ x ∧ x ≤ b then 1 else 0
theorem zw_or (x a b : Int32) : zw x a b = 1 ∨ zw x a b = 0 := by
  unfold zw
  split
  · exact Or.inl rfl
  · exact Or.inr rfl
theorem zw_none (x : Int32) : zw x 0 (-1) = 0 := by
  unfold zw
  rw [if_neg]
  rintro ⟨h1, h2⟩
  have a1 := Int32.le_iff_toInt_le.mp h1
  have a2 := Int32.le_iff_toInt_le.mp h2
  have a3 : (0 : Int32).toInt = 0 := by decide
  have a4 : (-1 : Int32).toInt = -1 := by decide
  omega
