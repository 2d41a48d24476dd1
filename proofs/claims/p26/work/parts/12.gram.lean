/-! p26, the pure part, 3: GRAM. -/
/-- which windows are found, the found ones in their order, the rows to the left and to the right, how many are found, whether anything is new -/
abbrev pq_G : Type := (Nat → Bool) × (Nat → Nat) × (Nat → Bool) × (Nat → Bool) × Nat × Bool
def pq_gF (G : pq_G) : Nat → Bool := G.1
def pq_gf (G : pq_G) : Nat → Nat := G.2.1
def pq_gl (G : pq_G) : Nat → Bool := G.2.2.1
def pq_gr (G : pq_G) : Nat → Bool := G.2.2.2.1
def pq_gc (G : pq_G) : Nat := G.2.2.2.2.1
def pq_gn (G : pq_G) : Bool := G.2.2.2.2.2
def pq_ub (f : Nat → Bool) (k : Nat) : Nat → Bool := fun j => if j = k then true else f j
def pq_un (f : Nat → Nat) (k v : Nat) : Nat → Nat := fun j => if j = k then v else f j
def pq_al (G : pq_G) (row : Nat) : pq_G := if pq_gl G row = true then G else (pq_gF G, pq_gf G, pq_ub (pq_gl G) row, pq_gr G, pq_gc G, true)
def pq_ar (G : pq_G) (row : Nat) : pq_G := if pq_gr G row = true then G else (pq_gF G, pq_gf G, pq_gl G, pq_ub (pq_gr G) row, pq_gc G, true)
def pq_aw (G : pq_G) (w : Nat) : pq_G := if 512 ≤ w ∨ pq_gF G w = true then G else if pq_gc G < 512 then (pq_ub (pq_gF G) w, pq_un (pq_gf G) (pq_gc G) w, pq_gl G, pq_gr G, pq_gc G + 1, true) else G
/-- the window of a cell and two rows -/
def pq_wn (c l r : Nat) : Nat := (c * 8 + l) * 8 + r
/-- the row behind, one further; the row ahead, with x at its far end -/
def pq_nb (a b y : Nat) : Nat := (2 * b ||| y) % 2 ^ a
def pq_na (a h x : Nat) : Nat := (h / 2) ||| (x * 2 ^ (a - 1))
/-- one step to the right (left) with x at the far end -/
def pq_xr (a nc : Nat) (b h : Nat) (x : Nat) (G : pq_G) : pq_G := if pq_gr G (pq_na a h x) = true then pq_aw G (pq_wn nc b (pq_na a h x)) else G
def pq_xl (a nc : Nat) (b h : Nat) (x : Nat) (G : pq_G) : pq_G := if pq_gl G (pq_na a h x) = true then pq_aw G (pq_wn nc (pq_na a h x) b) else G
def pq_nc (T : pq_T) (c h : Nat) : Nat := 2 * (pq_x T c).toNat + h % 2
def pq_sR (T : pq_T) (a c l r : Nat) (G : pq_G) : pq_G := pq_xr a (pq_nc T c r) (pq_nb a l (pq_w T c).toNat) r 1 (pq_xr a (pq_nc T c r) (pq_nb a l (pq_w T c).toNat) r 0 (pq_al G l))
def pq_sL (T : pq_T) (a c l r : Nat) (G : pq_G) : pq_G := pq_xl a (pq_nc T c l) (pq_nb a r (pq_w T c).toNat) l 1 (pq_xl a (pq_nc T c l) (pq_nb a r (pq_w T c).toNat) l 0 (pq_ar G r))
def pq_sp (T : pq_T) (a w : Nat) (G : pq_G) : Option pq_G := if pq_F T ((w / 64 : Nat) : Int) then none else some (if pq_v T (w / 64) = 1 then pq_sR T a (w / 64) (w / 8 % 8) (w % 8) G else pq_sL T a (w / 64) (w / 8 % 8) (w % 8) G)
/-- what is left of a pass, from i on -/
def pq_ps (T : pq_T) (a : Nat) : Nat → Nat → pq_G → Option pq_G
  | 0, _, G => some G
  | f + 1, i, G => if i < pq_gc G ∧ i < 512 then (match pq_sp T a (pq_gf G i) G with
    | none => none
    | some G1 => pq_ps T a f (i + 1) G1) else some G
def pq_old (G : pq_G) : pq_G := (pq_gF G, pq_gf G, pq_gl G, pq_gr G, pq_gc G, false)
/-- whether the passes, f of them at most, come to an end without a cell that is an end -/
def pq_cl (T : pq_T) (a : Nat) : Nat → pq_G → Bool
  | 0, _ => false
  | f + 1, G => match pq_ps T a 512 0 (pq_old G) with
    | none => false
    | some G1 => if pq_gn G1 = true then pq_cl T a f G1 else true
def pq_g0 : pq_G := (fun k => k == 0, fun _ => 0, fun k => k == 0, fun k => k == 0, 1, true)
/-! what an addition does: nothing, or something new -/
def pq_grow (G G1 : pq_G) : Prop := G1 = G ∨ pq_gn G1 = true
theorem pq_grow_rfl (G : pq_G) : pq_grow G G := Or.inl rfl
theorem pq_grow_trans {G G1 G2 : pq_G} (h1 : pq_grow G G1) (h2 : pq_grow G1 G2) : pq_grow G G2 := by
  rcases h2 with h2 | h2
  · rw [h2]; exact h1
  · exact Or.inr h2
theorem pq_grow_al (G : pq_G) (k : Nat) : pq_grow G (pq_al G k) := by
  unfold pq_al
  by_cases h : pq_gl G k = true
  · rw [if_pos h]; exact Or.inl rfl
  · rw [if_neg h]; exact Or.inr rfl
theorem pq_grow_ar (G : pq_G) (k : Nat) : pq_grow G (pq_ar G k) := by
  unfold pq_ar
  by_cases h : pq_gr G k = true
  · rw [if_pos h]; exact Or.inl rfl
  · rw [if_neg h]; exact Or.inr rfl
theorem pq_grow_aw (G : pq_G) (k : Nat) : pq_grow G (pq_aw G k) := by
  unfold pq_aw
  by_cases h : 512 ≤ k ∨ pq_gF G k = true
  · rw [if_pos h]; exact Or.inl rfl
  · rw [if_neg h]
    by_cases h2 : pq_gc G < 512
    · rw [if_pos h2]; exact Or.inr rfl
    · rw [if_neg h2]; exact Or.inl rfl
theorem pq_grow_xr (a nc b h x : Nat) (G : pq_G) : pq_grow G (pq_xr a nc b h x G) := by
  unfold pq_xr
  by_cases q : pq_gr G (pq_na a h x) = true
  · rw [if_pos q]; exact pq_grow_aw _ _
  · rw [if_neg q]; exact Or.inl rfl
theorem pq_grow_xl (a nc b h x : Nat) (G : pq_G) : pq_grow G (pq_xl a nc b h x G) := by
  unfold pq_xl
  by_cases q : pq_gl G (pq_na a h x) = true
  · rw [if_pos q]; exact pq_grow_aw _ _
  · rw [if_neg q]; exact Or.inl rfl
/-- nothing is new behind two, and so behind the first -/
theorem pq_grow_old {G G1 G2 : pq_G} (h1 : pq_grow G G1) (h2 : pq_grow G1 G2) (h : pq_gn G2 = false) : G1 = G ∧ G2 = G := by
  have e2 : G2 = G1 := h2.resolve_right (by rw [h]; decide)
  rw [e2] at h
  have e1 : G1 = G := h1.resolve_right (by rw [h]; decide)
  exact ⟨e1, e2.trans e1⟩
theorem pq_grow_sR (T : pq_T) (a c l r : Nat) (G : pq_G) : pq_grow G (pq_sR T a c l r G) := pq_grow_trans (pq_grow_trans (pq_grow_al _ _) (pq_grow_xr ..)) (pq_grow_xr ..)
theorem pq_grow_sL (T : pq_T) (a c l r : Nat) (G : pq_G) : pq_grow G (pq_sL T a c l r G) := pq_grow_trans (pq_grow_trans (pq_grow_ar _ _) (pq_grow_xl ..)) (pq_grow_xl ..)
theorem pq_grow_sp {T : pq_T} {a w : Nat} {G G1 : pq_G} (h : pq_sp T a w G = some G1) : pq_grow G G1 := by
  unfold pq_sp at h
  by_cases hF : pq_F T ((w / 64 : Nat) : Int)
  · rw [if_pos hF] at h; cases h
  · rw [if_neg hF] at h
    by_cases hv : pq_v T (w / 64) = 1
    · rw [if_pos hv] at h; cases h; exact pq_grow_sR ..
    · rw [if_neg hv] at h; cases h; exact pq_grow_sL ..
/-! the count of what is found -/
def pq_ct (f : Nat → Bool) : Nat → Nat
  | 0 => 0
  | n + 1 => pq_ct f n + (if f n = true then 1 else 0)
theorem pq_ct_le (f : Nat → Bool) : ∀ n, pq_ct f n ≤ n
  | 0 => Nat.le_refl 0
  | n + 1 => by
    have := pq_ct_le f n
    unfold pq_ct
    by_cases h : f n = true
    · rw [if_pos h]; omega
    · rw [if_neg h]; omega
theorem pq_ct_lt (f : Nat → Bool) {k : Nat} (hk : f k = false) : ∀ n, k < n → pq_ct f n < n
  | 0, h => absurd h (Nat.not_lt_zero k)
  | n + 1, h => by
    unfold pq_ct
    have h0 := pq_ct_le f n
    by_cases e : k = n
    · subst e
      rw [if_neg (by rw [hk]; decide)]
      omega
    · have := pq_ct_lt f hk n (by omega)
      by_cases q : f n = true
      · rw [if_pos q]; omega
      · rw [if_neg q]; omega
theorem pq_ct_out (f : Nat → Bool) (k : Nat) : ∀ n, n ≤ k → pq_ct (pq_ub f k) n = pq_ct f n
  | 0, _ => rfl
  | n + 1, h => by
    unfold pq_ct
    rw [pq_ct_out f k n (by omega), show pq_ub f k n = f n from if_neg (by omega)]
theorem pq_ct_up (f : Nat → Bool) {k : Nat} (hk : f k = false) : ∀ n, k < n → pq_ct (pq_ub f k) n = pq_ct f n + 1
  | 0, h => absurd h (Nat.not_lt_zero k)
  | n + 1, h => by
    unfold pq_ct
    by_cases e : k = n
    · subst e
      rw [pq_ct_out f k k (Nat.le_refl k), show pq_ub f k k = true from if_pos rfl, if_pos rfl, if_neg (by rw [hk]; decide)]
    · rw [pq_ct_up f hk n (by omega), show pq_ub f k n = f n from if_neg (fun q => e q.symm)]
      omega
/-- what is always so -/
def pq_J (G : pq_G) : Prop := (pq_gF G 0 = true ∧ pq_gl G 0 = true ∧ pq_gr G 0 = true) ∧ (∀ w, pq_gF G w = true → w < 512 ∧ ∃ i, i < pq_gc G ∧ pq_gf G i = w) ∧ pq_gc G = pq_ct (pq_gF G) 512
theorem pq_J_al {G : pq_G} (h : pq_J G) (k : Nat) : pq_J (pq_al G k) := by
  unfold pq_al
  by_cases q : pq_gl G k = true
  · rw [if_pos q]; exact h
  · rw [if_neg q]
    obtain ⟨⟨h1, h2, h3⟩, h4, h5⟩ := h
    refine ⟨⟨h1, ?_, h3⟩, h4, h5⟩
    show (if 0 = k then true else pq_gl G 0) = true
    rw [h2]; simp
theorem pq_J_ar {G : pq_G} (h : pq_J G) (k : Nat) : pq_J (pq_ar G k) := by
  unfold pq_ar
  by_cases q : pq_gr G k = true
  · rw [if_pos q]; exact h
  · rw [if_neg q]
    obtain ⟨⟨h1, h2, h3⟩, h4, h5⟩ := h
    refine ⟨⟨h1, h2, ?_⟩, h4, h5⟩
    show (if 0 = k then true else pq_gr G 0) = true
    rw [h3]; simp
theorem pq_J_aw {G : pq_G} (h : pq_J G) (k : Nat) : pq_J (pq_aw G k) := by
  unfold pq_aw
  by_cases q : 512 ≤ k ∨ pq_gF G k = true
  · rw [if_pos q]; exact h
  · rw [if_neg q]
    have q1 : k < 512 := Nat.lt_of_not_le (fun z => q (Or.inl z))
    have q2 : pq_gF G k = false := Bool.eq_false_iff.mpr (fun z => q (Or.inr z))
    by_cases hc : pq_gc G < 512
    · rw [if_pos hc]
      obtain ⟨⟨h1, h2, h3⟩, h4, h5⟩ := h
      refine ⟨⟨?_, h2, h3⟩, fun w hw => ?_, ?_⟩
      · show (if 0 = k then true else pq_gF G 0) = true
        rw [h1]; simp
      · show w < 512 ∧ ∃ i, i < pq_gc G + 1 ∧ (if i = pq_gc G then k else pq_gf G i) = w
        have hw : (if w = k then true else pq_gF G w) = true := hw
        by_cases e : w = k
        · exact ⟨by omega, pq_gc G, by omega, by rw [if_pos rfl]; exact e.symm⟩
        · rw [if_neg e] at hw
          obtain ⟨g1, i, g2, g3⟩ := h4 w hw
          exact ⟨g1, i, by omega, by rw [if_neg (by omega)]; exact g3⟩
      · show pq_gc G + 1 = pq_ct (pq_ub (pq_gF G) k) 512
        rw [pq_ct_up _ q2 512 q1, h5]
    · rw [if_neg hc]; exact h
theorem pq_J_xr {G : pq_G} (h : pq_J G) (a nc b q x : Nat) : pq_J (pq_xr a nc b q x G) := by
  unfold pq_xr
  by_cases z : pq_gr G (pq_na a q x) = true
  · rw [if_pos z]; exact pq_J_aw h _
  · rw [if_neg z]; exact h
theorem pq_J_xl {G : pq_G} (h : pq_J G) (a nc b q x : Nat) : pq_J (pq_xl a nc b q x G) := by
  unfold pq_xl
  by_cases z : pq_gl G (pq_na a q x) = true
  · rw [if_pos z]; exact pq_J_aw h _
  · rw [if_neg z]; exact h
theorem pq_J_sp {T : pq_T} {a w : Nat} {G G1 : pq_G} (hJ : pq_J G) (h : pq_sp T a w G = some G1) : pq_J G1 := by
  unfold pq_sp at h
  by_cases hF : pq_F T ((w / 64 : Nat) : Int)
  · rw [if_pos hF] at h; cases h
  · rw [if_neg hF] at h
    by_cases hv : pq_v T (w / 64) = 1
    · rw [if_pos hv] at h; cases h; exact pq_J_xr (pq_J_xr (pq_J_al hJ _) ..) ..
    · rw [if_neg hv] at h; cases h; exact pq_J_xl (pq_J_xl (pq_J_ar hJ _) ..) ..
theorem pq_J_ps {T : pq_T} {a : Nat} : ∀ (f i : Nat) (G : pq_G) {G1 : pq_G}, pq_J G → pq_ps T a f i G = some G1 → pq_J G1
  | 0, i, G, G1, hJ, h => by unfold pq_ps at h; cases h; exact hJ
  | f + 1, i, G, G1, hJ, h => by
    unfold pq_ps at h
    by_cases q : i < pq_gc G ∧ i < 512
    · rw [if_pos q] at h
      cases hs : pq_sp T a (pq_gf G i) G with
      | none => rw [hs] at h; cases h
      | some G2 =>
        rw [hs] at h
        exact pq_J_ps f (i + 1) G2 (pq_J_sp hJ hs) h
    · rw [if_neg q] at h; cases h; exact hJ
theorem pq_grow_ps {T : pq_T} {a : Nat} : ∀ (f i : Nat) (G : pq_G) {G1 : pq_G}, pq_ps T a f i G = some G1 → pq_grow G G1
  | 0, i, G, G1, h => by unfold pq_ps at h; cases h; exact Or.inl rfl
  | f + 1, i, G, G1, h => by
    unfold pq_ps at h
    by_cases q : i < pq_gc G ∧ i < 512
    · rw [if_pos q] at h
      cases hs : pq_sp T a (pq_gf G i) G with
      | none => rw [hs] at h; cases h
      | some G2 =>
        rw [hs] at h
        exact pq_grow_trans (pq_grow_sp hs) (pq_grow_ps f (i + 1) G2 h)
    · rw [if_neg q] at h; cases h; exact Or.inl rfl
/-- a pass with nothing new: every found window leads to found ones alone -/
theorem pq_ps_old {T : pq_T} {a : Nat} : ∀ (f i : Nat) (G : pq_G) {G1 : pq_G}, 512 ≤ i + f → pq_ps T a f i G = some G1 → pq_gn G1 = false → G1 = G ∧ ∀ j, i ≤ j → j < pq_gc G → j < 512 → pq_sp T a (pq_gf G j) G = some G
  | 0, i, G, G1, hf, h, _ => by
    unfold pq_ps at h; cases h
    exact ⟨rfl, fun j h1 h2 h3 => absurd h3 (by omega)⟩
  | f + 1, i, G, G1, hf, h, hn => by
    unfold pq_ps at h
    by_cases q : i < pq_gc G ∧ i < 512
    · rw [if_pos q] at h
      cases hs : pq_sp T a (pq_gf G i) G with
      | none => rw [hs] at h; cases h
      | some G2 =>
        rw [hs] at h
        obtain ⟨e1, e2⟩ := pq_grow_old (pq_grow_sp hs) (pq_grow_ps f (i + 1) G2 h) hn
        subst e1
        obtain ⟨g1, g2⟩ := pq_ps_old f (i + 1) G2 (by omega) h hn
        refine ⟨g1, fun j h1 h2 h3 => ?_⟩
        by_cases e : j = i
        · rw [e]; exact hs
        · exact g2 j (by omega) h2 h3
    · rw [if_neg q] at h; cases h
      exact ⟨rfl, fun j h1 h2 h3 => absurd (⟨by omega, by omega⟩ : i < pq_gc G ∧ i < 512) q⟩
/-- closed: what is found leads to what is found -/
def pq_closed (T : pq_T) (a : Nat) (G : pq_G) : Prop := pq_J G ∧ pq_gn G = false ∧ ∀ w, pq_gF G w = true → pq_sp T a w G = some G
theorem pq_J_old {G : pq_G} (h : pq_J G) : pq_J (pq_old G) := h
theorem pq_cl_closed {T : pq_T} {a : Nat} : ∀ (f : Nat) (G : pq_G), pq_J G → pq_cl T a f G = true → ∃ G1, pq_closed T a G1
  | 0, G, _, h => by unfold pq_cl at h; cases h
  | f + 1, G, hJ, h => by
    unfold pq_cl at h
    cases hs : pq_ps T a 512 0 (pq_old G) with
    | none => rw [hs] at h; cases h
    | some G1 =>
      rw [hs] at h
      have hJ1 := pq_J_ps 512 0 _ (pq_J_old hJ) hs
      by_cases q : pq_gn G1 = true
      · have h : (if pq_gn G1 = true then pq_cl T a f G1 else true) = true := h
        rw [if_pos q] at h
        exact pq_cl_closed f G1 hJ1 h
      · have q2 : pq_gn G1 = false := Bool.eq_false_iff.mpr q
        obtain ⟨g1, g2⟩ := pq_ps_old 512 0 _ (by omega) hs q2
        refine ⟨G1, hJ1, q2, fun w hw => ?_⟩
        obtain ⟨-, i, h2, h3⟩ := hJ1.2.1 w hw
        have h4 : pq_gc G1 ≤ 512 := by rw [hJ1.2.2]; exact pq_ct_le _ 512
        rw [g1] at h2 h3 h4 ⊢
        rw [← h3]
        exact g2 i (Nat.zero_le i) h2 (by omega)
theorem pq_J_g0 : pq_J pq_g0 := by
  refine ⟨⟨rfl, rfl, rfl⟩, fun w hw => ?_, ?_⟩
  · have e : w = 0 := by simpa [pq_g0, pq_gF] using hw
    subst e
    exact ⟨by omega, 0, Nat.lt_of_lt_of_le Nat.zero_lt_one (Nat.le_refl 1), rfl⟩
  · show 1 = pq_ct (fun k => k == 0) 512
    have : ∀ n, pq_ct (fun k => k == 0) (n + 1) = 1 := by
      intro n
      induction n with
      | zero => rfl
      | succ n ih =>
        rw [show pq_ct (fun k => k == 0) (n + 1 + 1) = pq_ct (fun k => k == 0) (n + 1) + (if ((n + 1) == 0) = true then 1 else 0) from rfl, ih]
        simp
    exact (this 511).symm
/-! rows of symbols as numbers -/
def pq_wd (f : Nat → Nat) : Nat → Nat
  | 0 => 0
  | a + 1 => f 0 + 2 * pq_wd (fun i => f (i + 1)) a
theorem pq_wd_facts {f : Nat → Nat} (hf : ∀ i, f i = 0 ∨ f i = 1) {a : Nat} (h1 : 1 ≤ a) (h3 : a ≤ 3) {y : Nat} (hy : y = 0 ∨ y = 1) {g : Nat → Nat} (hg0 : g 0 = y) (hg : ∀ i, g (i + 1) = f i) :
    pq_wd f a < 8 ∧ pq_wd f a % 2 = f 0 ∧ pq_na a (pq_wd f a) (f a) = pq_wd (fun i => f (i + 1)) a ∧ pq_nb a (pq_wd f a) y = pq_wd g a := by
  have e : a = 1 ∨ a = 2 ∨ a = 3 := by omega
  have g1 : g 1 = f 0 := hg 0
  have g2 : g 2 = f 1 := hg 1
  rcases e with rfl | rfl | rfl
  · simp only [pq_wd, pq_na, pq_nb, hg0]
    rcases hf 0 with q0 | q0 <;> rcases hf 1 with q1 | q1 <;> rcases hy with rfl | rfl <;> simp only [q0, q1] <;> decide
  · simp only [pq_wd, pq_na, pq_nb, hg0, Nat.zero_add, g1]
    rcases hf 0 with q0 | q0 <;> rcases hf 1 with q1 | q1 <;> rcases hf 2 with q2 | q2 <;> rcases hy with rfl | rfl <;> simp only [q0, q1, q2, Nat.reduceAdd] <;> decide
  · simp only [pq_wd, pq_na, pq_nb, hg0, Nat.zero_add, Nat.reduceAdd, g1, g2]
    rcases hf 0 with q0 | q0 <;> rcases hf 1 with q1 | q1 <;> rcases hf 2 with q2 | q2 <;> rcases hf 3 with q3 | q3 <;> rcases hy with rfl | rfl <;> simp only [q0, q1, q2, q3, Nat.reduceAdd] <;> decide
def pq_sy (C : pq_C) (z : Int) : Nat := (pq_t C z).toNat
def pq_rl (C : pq_C) (a j : Nat) : Nat := pq_wd (fun i => pq_sy C (pq_p C - j - i)) a
def pq_rr (C : pq_C) (a j : Nat) : Nat := pq_wd (fun i => pq_sy C (pq_p C + j + i)) a
def pq_I (G : pq_G) (a : Nat) (C : pq_C) : Prop := pq_gF G (pq_wn (pq_c C) (pq_rl C a 1) (pq_rr C a 1)) = true ∧ ∀ j, 2 ≤ j → pq_gl G (pq_rl C a j) = true ∧ pq_gr G (pq_rr C a j) = true
theorem pq_sy01 {T : pq_T} {C : pq_C} (hC : pq_wf T C) (z : Int) : pq_sy C z = 0 ∨ pq_sy C z = 1 := by
  unfold pq_sy
  rcases hC.2.1 z with h | h <;> rw [h] <;> decide
theorem pq_wd0 : ∀ a, pq_wd (fun _ => 0) a = 0
  | 0 => rfl
  | a + 1 => by unfold pq_wd; rw [pq_wd0 a]
theorem pq_I_0 {G : pq_G} {a : Nat} (hJ : pq_J G) : pq_I G a pq_0 := by
  have hl : ∀ j, pq_rl pq_0 a j = 0 := fun j => pq_wd0 a
  have hr : ∀ j, pq_rr pq_0 a j = 0 := fun j => pq_wd0 a
  refine ⟨?_, fun j _ => ?_⟩
  · rw [hl, hr]; exact hJ.1.1
  · rw [hl, hr]; exact hJ.1.2
theorem pq_wn_parts {c l r : Nat} (hl : l < 8) (hr : r < 8) : pq_wn c l r / 64 = c ∧ pq_wn c l r / 8 % 8 = l ∧ pq_wn c l r % 8 = r := by
  unfold pq_wn
  omega
theorem pq_aw_found {G : pq_G} {w : Nat} (hJ : pq_J G) (hw : w < 512) (h : pq_aw G w = G) : pq_gF G w = true := by
  by_cases q : pq_gF G w = true
  · exact q
  · exfalso
    have q2 : pq_gF G w = false := Bool.eq_false_iff.mpr q
    have hc : pq_gc G < 512 := by rw [hJ.2.2]; exact pq_ct_lt _ q2 512 hw
    unfold pq_aw at h
    rw [if_neg (fun z => z.elim (by omega) q), if_pos hc] at h
    have := congrArg pq_gc h
    have e : pq_gc G + 1 = pq_gc G := this
    omega
theorem pq_al_in {G : pq_G} {k : Nat} (hn : pq_gn G = false) (h : pq_al G k = G) : pq_gl G k = true := by
  by_cases q : pq_gl G k = true
  · exact q
  · exfalso
    unfold pq_al at h
    rw [if_neg q] at h
    have e : true = pq_gn G := congrArg pq_gn h
    rw [hn] at e
    cases e
theorem pq_ar_in {G : pq_G} {k : Nat} (hn : pq_gn G = false) (h : pq_ar G k = G) : pq_gr G k = true := by
  by_cases q : pq_gr G k = true
  · exact q
  · exfalso
    unfold pq_ar at h
    rw [if_neg q] at h
    have e : true = pq_gn G := congrArg pq_gn h
    rw [hn] at e
    cases e
/-- three additions that leave all as it was leave it so one by one -/
theorem pq_grow3 {G G1 G2 G3 : pq_G} (h1 : pq_grow G G1) (h2 : pq_grow G1 G2) (h3 : pq_grow G2 G3) (e : G3 = G) (hn : pq_gn G = false) : G1 = G ∧ G2 = G := by
  have h4 := pq_grow_old (pq_grow_trans h1 h2) h3 (by rw [e]; exact hn)
  have h5 := pq_grow_old h1 h2 (by rw [h4.1]; exact hn)
  exact ⟨h5.1, h4.1⟩
theorem pq_I_go {T : pq_T} {G : pq_G} {a : Nat} {C : pq_C} (hT : pq_ok T) (hC : pq_wf T C) (h1 : 1 ≤ a) (h3 : a ≤ 3) (hG : pq_closed T a G) (hI : pq_I G a C) : pq_on T C ∧ pq_I G a (pq_go T C) := by
  obtain ⟨hJ, hn, hcl⟩ := hG
  obtain ⟨hW, hR⟩ := hI
  have s01 := pq_sy01 hC
  have hL8 : pq_rl C a 1 < 8 := (pq_wd_facts (f := fun i => pq_sy C (pq_p C - (1 : Nat) - i)) (fun i => s01 _) h1 h3 (y := 0) (Or.inl rfl) (g := fun i => match i with | 0 => 0 | i + 1 => pq_sy C (pq_p C - (1 : Nat) - i)) rfl (fun i => rfl)).1
  have hR8 : pq_rr C a 1 < 8 := (pq_wd_facts (f := fun i => pq_sy C (pq_p C + (1 : Nat) + i)) (fun i => s01 _) h1 h3 (y := 0) (Or.inl rfl) (g := fun i => match i with | 0 => 0 | i + 1 => pq_sy C (pq_p C + (1 : Nat) + i)) rfl (fun i => rfl)).1
  have hs := hcl _ hW
  obtain ⟨p1, p2, p3⟩ := pq_wn_parts (c := pq_c C) hL8 hR8
  unfold pq_sp at hs
  rw [p1, p2, p3] at hs
  by_cases hF : pq_F T ((pq_c C : Nat) : Int)
  · rw [if_pos hF] at hs; cases hs
  · rw [if_neg hF] at hs
    have hs := Option.some.inj hs
    have hm : pq_m C = (pq_c C : Int) := by
      have h4 : pq_m C = 2 * pq_q C + pq_t C (pq_p C) := rfl
      have h5 := hC.1.1
      have h6 := hC.2.1 (pq_p C)
      exact (Int.toNat_of_nonneg (by omega)).symm
    have hE : ¬ pq_E T (pq_m C) := by rw [hm]; exact fun q => hF (Or.inl q)
    have hx : pq_x T (pq_c C) < pq_n T := by
      have h9 : ¬ pq_n T ≤ pq_x T (pq_c C) := fun q => hF (Or.inr (by rw [Int.toNat_natCast]; exact q))
      omega
    have hon : pq_on T C := by
      refine ⟨?_, hE⟩
      have h4 : pq_m C = 2 * pq_q C + pq_t C (pq_p C) := rfl
      have h6 := hC.2.1 (pq_p C)
      have h7 : ¬ 2 * pq_n T ≤ (pq_c C : Int) := fun q => hE (Or.inr (Or.inr (by
        have h8 : pq_c C < 8 := Nat.lt_of_not_le (fun z => hE (Or.inr (Or.inl (by omega))))
        have := (hT.2 (pq_c C) h8).2 q
        exact this)))
      omega
    refine ⟨hon, ?_⟩
    obtain ⟨a0, -, -, a1, a2, a3, a4⟩ := pq_at hT hon
    have hC1 := pq_wf_go hT hC hon
    have hw01 : (pq_w T (pq_c C)).toNat = 0 ∨ (pq_w T (pq_c C)).toNat = 1 := by omega
    have hn4 := hT.1
    -- a symbol that isn't where the machine was
    have hsame : ∀ z, z ≠ pq_p C → pq_sy (pq_go T C) z = pq_sy C z := fun z hz => by
      unfold pq_sy
      rw [pq_t_go, pq_up_ne _ _ hz]
    have hhere : pq_sy (pq_go T C) (pq_p C) = (pq_w T (pq_c C)).toNat := by
      unfold pq_sy
      rw [pq_t_go, pq_up_self]
    have hcnew : ∀ s : Nat, pq_sy C (pq_p C + pq_v T (pq_c C)) = s → pq_c (pq_go T C) = 2 * (pq_x T (pq_c C)).toNat + s := by
      intro s hs0
      have e1 : pq_m (pq_go T C) = 2 * pq_x T (pq_c C) + pq_t (pq_go T C) (pq_p C + pq_v T (pq_c C)) := rfl
      have e2 := hsame (pq_p C + pq_v T (pq_c C)) (by omega)
      rw [hs0] at e2
      unfold pq_sy at e2
      have e3 := hC1.2.1 (pq_p C + pq_v T (pq_c C))
      show (pq_m (pq_go T C)).toNat = _
      omega
    by_cases hv : pq_v T (pq_c C) = 1
    · rw [if_pos hv] at hs
      unfold pq_sR at hs
      have hp : pq_p (pq_go T C) = pq_p C + 1 := by rw [pq_p_go, hv]
      have fl := pq_wd_facts (f := fun i => pq_sy C (pq_p C - (1 : Nat) - i)) (fun i => s01 _) h1 h3 hw01 (g := fun i => pq_sy (pq_go T C) (pq_p (pq_go T C) - (1 : Nat) - i)) (by show pq_sy _ _ = _; rw [hp, show pq_p C + 1 - ((1 : Nat) : Int) - ((0 : Nat) : Int) = pq_p C by omega]; exact hhere) (fun i => by show pq_sy _ _ = pq_sy _ _; rw [hp, hsame _ (by omega)]; congr 1; omega)
      have fr := pq_wd_facts (f := fun i => pq_sy C (pq_p C + (1 : Nat) + i)) (fun i => s01 _) h1 h3 (y := 0) (Or.inl rfl) (g := fun i => match i with | 0 => 0 | i + 1 => pq_sy C (pq_p C + (1 : Nat) + i)) rfl (fun i => rfl)
      have eL : pq_rl (pq_go T C) a 1 = pq_nb a (pq_rl C a 1) (pq_w T (pq_c C)).toNat := fl.2.2.2.symm
      have eR : pq_rr (pq_go T C) a 1 = pq_na a (pq_rr C a 1) (pq_sy C (pq_p C + (1 : Nat) + a)) := by
        refine Eq.trans ?_ fr.2.2.1.symm
        show pq_wd _ a = pq_wd _ a
        congr 1
        funext i
        rw [hp, hsame _ (by omega)]
        congr 1
        omega
      have eL2 : ∀ j, 2 ≤ j → pq_rl (pq_go T C) a j = pq_rl C a (j - 1) := fun j hj => by
        show pq_wd _ a = pq_wd _ a
        congr 1
        funext i
        rw [hp, hsame _ (by omega)]
        congr 1
        omega
      have eR2 : ∀ j, 1 ≤ j → pq_rr (pq_go T C) a j = pq_rr C a (j + 1) := fun j hj => by
        show pq_wd _ a = pq_wd _ a
        congr 1
        funext i
        rw [hp, hsame _ (by omega)]
        congr 1
        omega
      obtain ⟨q1, q2⟩ := pq_grow3 (pq_grow_al _ _) (pq_grow_xr ..) (pq_grow_xr ..) hs hn
      have hlin := pq_al_in hn q1
      have hrin : pq_gr G (pq_rr (pq_go T C) a 1) = true := by rw [eR2 1 (by omega)]; exact (hR 2 (by omega)).2
      have hcc : pq_c (pq_go T C) = pq_nc T (pq_c C) (pq_rr C a 1) := by
        unfold pq_nc
        refine hcnew _ ?_
        rw [hv]
        have := fr.2.1
        show _ = pq_rr C a 1 % 2
        refine Eq.trans ?_ this.symm
        show pq_sy C (pq_p C + 1) = pq_sy C (pq_p C + ((1 : Nat) : Int) + ((0 : Nat) : Int))
        congr 1
        omega
      have hnc8 : pq_nc T (pq_c C) (pq_rr C a 1) < 8 := by unfold pq_nc; omega
      have hnl8 : pq_rl (pq_go T C) a 1 < 8 := (pq_wd_facts (f := fun i => pq_sy (pq_go T C) (pq_p (pq_go T C) - (1 : Nat) - i)) (fun i => pq_sy01 hC1 _) h1 h3 (y := 0) (Or.inl rfl) (g := fun i => match i with | 0 => 0 | i + 1 => pq_sy (pq_go T C) (pq_p (pq_go T C) - (1 : Nat) - i)) rfl (fun i => rfl)).1
      have hnr8 : pq_rr (pq_go T C) a 1 < 8 := (pq_wd_facts (f := fun i => pq_sy (pq_go T C) (pq_p (pq_go T C) + (1 : Nat) + i)) (fun i => pq_sy01 hC1 _) h1 h3 (y := 0) (Or.inl rfl) (g := fun i => match i with | 0 => 0 | i + 1 => pq_sy (pq_go T C) (pq_p (pq_go T C) + (1 : Nat) + i)) rfl (fun i => rfl)).1
      have hw512 : pq_wn (pq_nc T (pq_c C) (pq_rr C a 1)) (pq_rl (pq_go T C) a 1) (pq_rr (pq_go T C) a 1) < 512 := by unfold pq_wn; omega
      refine ⟨?_, fun j hj => ⟨?_, ?_⟩⟩
      · rw [hcc]
        rw [q1] at q2 hs
        rw [q2] at hs
        rcases s01 (pq_p C + (1 : Nat) + a) with z | z
        · rw [z] at eR
          unfold pq_xr at q2
          rw [← eL, ← eR, if_pos hrin] at q2
          exact pq_aw_found hJ hw512 q2
        · rw [z] at eR
          unfold pq_xr at hs
          rw [← eL, ← eR, if_pos hrin] at hs
          exact pq_aw_found hJ hw512 hs
      · rw [eL2 j hj]
        by_cases e : j = 2
        · subst e; exact hlin
        · exact (hR (j - 1) (by omega)).1
      · rw [eR2 j (by omega)]
        exact (hR (j + 1) (by omega)).2
    · rw [if_neg hv] at hs
      have hv : pq_v T (pq_c C) = -1 := a2.resolve_left hv
      unfold pq_sL at hs
      have hp : pq_p (pq_go T C) = pq_p C - 1 := by rw [pq_p_go, hv]; omega
      have fr := pq_wd_facts (f := fun i => pq_sy C (pq_p C + (1 : Nat) + i)) (fun i => s01 _) h1 h3 hw01 (g := fun i => pq_sy (pq_go T C) (pq_p (pq_go T C) + (1 : Nat) + i)) (by show pq_sy _ _ = _; rw [hp, show pq_p C - 1 + ((1 : Nat) : Int) + ((0 : Nat) : Int) = pq_p C by omega]; exact hhere) (fun i => by show pq_sy _ _ = pq_sy _ _; rw [hp, hsame _ (by omega)]; congr 1; omega)
      have fl := pq_wd_facts (f := fun i => pq_sy C (pq_p C - (1 : Nat) - i)) (fun i => s01 _) h1 h3 (y := 0) (Or.inl rfl) (g := fun i => match i with | 0 => 0 | i + 1 => pq_sy C (pq_p C - (1 : Nat) - i)) rfl (fun i => rfl)
      have eR : pq_rr (pq_go T C) a 1 = pq_nb a (pq_rr C a 1) (pq_w T (pq_c C)).toNat := fr.2.2.2.symm
      have eL : pq_rl (pq_go T C) a 1 = pq_na a (pq_rl C a 1) (pq_sy C (pq_p C - (1 : Nat) - a)) := by
        refine Eq.trans ?_ fl.2.2.1.symm
        show pq_wd _ a = pq_wd _ a
        congr 1
        funext i
        rw [hp, hsame _ (by omega)]
        congr 1
        omega
      have eR2 : ∀ j, 2 ≤ j → pq_rr (pq_go T C) a j = pq_rr C a (j - 1) := fun j hj => by
        show pq_wd _ a = pq_wd _ a
        congr 1
        funext i
        rw [hp, hsame _ (by omega)]
        congr 1
        omega
      have eL2 : ∀ j, 1 ≤ j → pq_rl (pq_go T C) a j = pq_rl C a (j + 1) := fun j hj => by
        show pq_wd _ a = pq_wd _ a
        congr 1
        funext i
        rw [hp, hsame _ (by omega)]
        congr 1
        omega
      obtain ⟨q1, q2⟩ := pq_grow3 (pq_grow_ar _ _) (pq_grow_xl ..) (pq_grow_xl ..) hs hn
      have hrin := pq_ar_in hn q1
      have hlin : pq_gl G (pq_rl (pq_go T C) a 1) = true := by rw [eL2 1 (by omega)]; exact (hR 2 (by omega)).1
      have hcc : pq_c (pq_go T C) = pq_nc T (pq_c C) (pq_rl C a 1) := by
        unfold pq_nc
        refine hcnew _ ?_
        rw [hv]
        have := fl.2.1
        show _ = pq_rl C a 1 % 2
        refine Eq.trans ?_ this.symm
        show pq_sy C (pq_p C + -1) = pq_sy C (pq_p C - ((1 : Nat) : Int) - ((0 : Nat) : Int))
        congr 1
        omega
      have hnc8 : pq_nc T (pq_c C) (pq_rl C a 1) < 8 := by unfold pq_nc; omega
      have hnl8 : pq_rl (pq_go T C) a 1 < 8 := (pq_wd_facts (f := fun i => pq_sy (pq_go T C) (pq_p (pq_go T C) - (1 : Nat) - i)) (fun i => pq_sy01 hC1 _) h1 h3 (y := 0) (Or.inl rfl) (g := fun i => match i with | 0 => 0 | i + 1 => pq_sy (pq_go T C) (pq_p (pq_go T C) - (1 : Nat) - i)) rfl (fun i => rfl)).1
      have hnr8 : pq_rr (pq_go T C) a 1 < 8 := (pq_wd_facts (f := fun i => pq_sy (pq_go T C) (pq_p (pq_go T C) + (1 : Nat) + i)) (fun i => pq_sy01 hC1 _) h1 h3 (y := 0) (Or.inl rfl) (g := fun i => match i with | 0 => 0 | i + 1 => pq_sy (pq_go T C) (pq_p (pq_go T C) + (1 : Nat) + i)) rfl (fun i => rfl)).1
      have hw512 : pq_wn (pq_nc T (pq_c C) (pq_rl C a 1)) (pq_rl (pq_go T C) a 1) (pq_rr (pq_go T C) a 1) < 512 := by unfold pq_wn; omega
      refine ⟨?_, fun j hj => ⟨?_, ?_⟩⟩
      · rw [hcc]
        rw [q1] at q2 hs
        rw [q2] at hs
        rcases s01 (pq_p C - (1 : Nat) - a) with z | z
        · rw [z] at eL
          unfold pq_xl at q2
          rw [← eR, ← eL, if_pos hlin] at q2
          exact pq_aw_found hJ hw512 q2
        · rw [z] at eL
          unfold pq_xl at hs
          rw [← eR, ← eL, if_pos hlin] at hs
          exact pq_aw_found hJ hw512 hs
      · rw [eL2 j (by omega)]
        exact (hR (j + 1) (by omega)).1
      · rw [eR2 j hj]
        by_cases e : j = 2
        · subst e; exact hrin
        · exact (hR (j - 1) (by omega)).2
theorem pq_gram_sound {T : pq_T} (hT : pq_ok T) {a f : Nat} (h1 : 1 ≤ a) (h3 : a ≤ 3) (h : pq_cl T a f pq_g0 = true) : ∀ k, pq_on T (pq_r T k) := by
  obtain ⟨G, hG⟩ := pq_cl_closed f pq_g0 pq_J_g0 h
  have key : ∀ k, pq_I G a (pq_r T k) := by
    intro k
    induction k with
    | zero => exact pq_I_0 hG.1
    | succ k ih =>
      obtain ⟨g1, g2⟩ := pq_I_go hT (pq_wf_r hT k) h1 h3 hG ih
      rw [pq_r_on g1]
      exact g2
  exact fun k => (pq_I_go hT (pq_wf_r hT k) h1 h3 hG (key k)).1
