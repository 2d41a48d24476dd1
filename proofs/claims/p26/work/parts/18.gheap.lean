/-! p26: what GRAM's rows hold -/
def pq_bz (F : Nat → Bool) (k : Nat) : Int := if F k = true then 1 else 0
theorem pq_bz_or (F : Nat → Bool) (k : Nat) : pq_bz F k = 0 ∨ pq_bz F k = 1 := by
  unfold pq_bz
  by_cases h : F k = true
  · exact Or.inr (if_pos h)
  · exact Or.inl (if_neg h)
theorem pq_bz_1 {F : Nat → Bool} {k : Nat} (h : ¬ pq_bz F k = 0) : F k = true := by
  by_cases q : F k = true
  · exact q
  · exact absurd (if_neg q) h
theorem pq_bz_0 {F : Nat → Bool} {k : Nat} (h : pq_bz F k = 0) : ¬ F k = true := fun q => by
  unfold pq_bz at h
  rw [if_pos q] at h
  omega
theorem pq_bz_pb (F : Nat → Bool) (k : Nat) : pq_bz F k = pb (F k = true) := by
  by_cases q : F k = true
  · rw [pb_t q]; exact if_pos q
  · rw [pb_f q]; exact if_neg q
theorem pq_bz_ub {F : Nat → Bool} {f : Nat → Int} {N : Nat} (h : ∀ k : Nat, k < N → f k = pq_bz F k) (i : Nat) : ∀ k : Nat, k < N → pz_u f i 1 k = pq_bz (pq_ub F i) k := fun k hk => by
  unfold pz_u pq_bz pq_ub
  by_cases e : k = i
  · rw [if_pos e, if_pos (if_pos e)]
  · rw [if_neg e, if_neg e]; exact h k hk
def pq_bn (G : pq_G) : Int := if pq_gn G = true then 1 else 0
theorem pq_bn_or (G : pq_G) : pq_bn G = 0 ∨ pq_bn G = 1 := by
  unfold pq_bn
  by_cases h : pq_gn G = true
  · exact Or.inr (if_pos h)
  · exact Or.inl (if_neg h)
def pq_hr (G : pq_G) (fF ff fl fr : Nat → Int) (n nw : Int) : Prop := (∀ k : Nat, k < 512 → fF k = pq_bz (pq_gF G) k) ∧ (∀ k : Nat, k < pq_gc G → ff k = (pq_gf G k : Int)) ∧ (∀ k : Nat, k < 8 → fl k = pq_bz (pq_gl G) k) ∧ (∀ k : Nat, k < 8 → fr k = pq_bz (pq_gr G) k) ∧ n = (pq_gc G : Int) ∧ nw = pq_bn G
theorem pq_hr_al0 {G : pq_G} {fF ff fl fr : Nat → Int} {n nw : Int} (h : pq_hr G fF ff fl fr n nw) {i : Nat} (hi : i < 8) (hb : ¬ fl i = 0) : pq_hr (pq_al G i) fF ff fl fr n nw := by
  rw [show pq_al G i = G from if_pos (pq_bz_1 (by rw [← h.2.2.1 i hi]; exact hb))]
  exact h
theorem pq_hr_al1 {G : pq_G} {fF ff fl fr : Nat → Int} {n nw : Int} (h : pq_hr G fF ff fl fr n nw) {i : Nat} (hi : i < 8) (hb : fl i = 0) : pq_hr (pq_al G i) fF ff (pz_u fl i 1) fr n 1 := by
  rw [show pq_al G i = _ from if_neg (pq_bz_0 (by rw [← h.2.2.1 i hi]; exact hb))]
  exact ⟨h.1, h.2.1, pq_bz_ub h.2.2.1 i, h.2.2.2.1, h.2.2.2.2.1, rfl⟩
theorem pq_hr_ar0 {G : pq_G} {fF ff fl fr : Nat → Int} {n nw : Int} (h : pq_hr G fF ff fl fr n nw) {i : Nat} (hi : i < 8) (hb : ¬ fr i = 0) : pq_hr (pq_ar G i) fF ff fl fr n nw := by
  rw [show pq_ar G i = G from if_pos (pq_bz_1 (by rw [← h.2.2.2.1 i hi]; exact hb))]
  exact h
theorem pq_hr_ar1 {G : pq_G} {fF ff fl fr : Nat → Int} {n nw : Int} (h : pq_hr G fF ff fl fr n nw) {i : Nat} (hi : i < 8) (hb : fr i = 0) : pq_hr (pq_ar G i) fF ff fl (pz_u fr i 1) n 1 := by
  rw [show pq_ar G i = _ from if_neg (pq_bz_0 (by rw [← h.2.2.2.1 i hi]; exact hb))]
  exact ⟨h.1, h.2.1, h.2.2.1, pq_bz_ub h.2.2.2.1 i, h.2.2.2.2.1, rfl⟩
theorem pq_hr_aw0 {G : pq_G} {fF ff fl fr : Nat → Int} {n nw : Int} (h : pq_hr G fF ff fl fr n nw) {w : Nat} (hw : 512 ≤ w ∨ (w < 512 ∧ ¬ fF w = 0) ∨ 512 ≤ n) : pq_hr (pq_aw G w) fF ff fl fr n nw := by
  have e : pq_aw G w = G := by
    unfold pq_aw
    by_cases q : 512 ≤ w ∨ pq_gF G w = true
    · rw [if_pos q]
    · rw [if_neg q]
      rcases hw with z | ⟨z1, z⟩ | z
      · exact absurd (Or.inl z) q
      · exact absurd (Or.inr (pq_bz_1 (by rw [← h.1 w z1]; exact z))) q
      · have := h.2.2.2.2.1
        rw [if_neg (by omega)]
  rw [e]
  exact h
theorem pq_hr_aw1 {G : pq_G} {fF ff fl fr : Nat → Int} {n nw : Int} (h : pq_hr G fF ff fl fr n nw) {w : Nat} (hw : w < 512) (hb : fF w = 0) (hn : n < 512) : pq_hr (pq_aw G w) (pz_u fF w 1) (pz_u ff n.toNat (w : Int)) fl fr (n + 1) 1 := by
  have hc := h.2.2.2.2.1
  have q : ¬ (512 ≤ w ∨ pq_gF G w = true) := fun z => z.elim (by omega) (pq_bz_0 (by rw [← h.1 w hw]; exact hb))
  have e : pq_aw G w = (pq_ub (pq_gF G) w, pq_un (pq_gf G) (pq_gc G) w, pq_gl G, pq_gr G, pq_gc G + 1, true) := by
    unfold pq_aw
    rw [if_neg q, if_pos (by omega)]
  rw [e]
  refine ⟨pq_bz_ub h.1 w, fun k hk => ?_, h.2.2.1, h.2.2.2.1, ?_, rfl⟩
  · have hk : k < pq_gc G + 1 := hk
    show pz_u ff n.toNat (w : Int) k = ((pq_un (pq_gf G) (pq_gc G) w k : Nat) : Int)
    unfold pz_u pq_un
    by_cases e2 : k = pq_gc G
    · rw [if_pos (by omega), if_pos e2]
    · rw [if_neg (by omega), if_neg e2]
      exact h.2.1 k (by omega)
  · show n + 1 = ((pq_gc G + 1 : Nat) : Int)
    omega
theorem pq_g0_made (b : Bool) : pq_aw (pq_ar (pq_al (fun _ => false, fun _ => 0, fun _ => false, fun _ => false, 0, b) 0) 0) (pq_wn 0 0 0) = pq_g0 := by
  have e1 : pq_ub (fun _ => false) 0 = fun k => k == 0 := by
    funext k
    unfold pq_ub
    by_cases h : k = 0
    · subst h; rfl
    · rw [if_neg h]
      exact (beq_eq_false_iff_ne.mpr h).symm
  have e2 : pq_un (fun _ => 0) 0 0 = fun _ => 0 := by
    funext k
    unfold pq_un
    split <;> rfl
  have h1 : pq_al (fun _ => false, fun _ => 0, fun _ => false, fun _ => false, 0, b) 0 = (fun _ => false, fun _ => 0, fun k => k == 0, fun _ => false, 0, true) := by
    refine (if_neg (show ¬ false = true by decide)).trans ?_
    rw [← e1]; rfl
  have h2 : pq_ar (fun _ => false, fun _ => 0, fun k => k == 0, fun _ => false, 0, true) 0 = (fun _ => false, fun _ => 0, fun k => k == 0, fun k => k == 0, 0, true) := by
    refine (if_neg (by decide)).trans ?_
    rw [← e1]; rfl
  have h3 : pq_aw (fun _ => false, fun _ => 0, fun k => k == 0, fun k => k == 0, 0, true) 0 = pq_g0 := by
    refine (if_neg (by decide)).trans ?_
    refine (if_pos (by decide)).trans ?_
    show (pq_ub (fun _ => false) 0, pq_un (fun _ => 0) 0 0, _, _, _, _) = pq_g0
    rw [e1, e2]; rfl
  rw [h1, h2, show pq_wn 0 0 0 = 0 from rfl, h3]
/-! bits of small numbers -/
theorem pz_and1 {x : Int} (h1 : 0 ≤ x) (h2 : x < 8) : zi x &&& zi 1 = zi (x % 2) := by
  have h : x = 0 ∨ x = 1 ∨ x = 2 ∨ x = 3 ∨ x = 4 ∨ x = 5 ∨ x = 6 ∨ x = 7 := by omega
  rcases h with rfl | rfl | rfl | rfl | rfl | rfl | rfl | rfl <;> decide
theorem pz_shl1 {x : Int} (h1 : 0 ≤ x) (h2 : x < 8) : zi x <<< (zi 1 &&& 31) = zi (2 * x) := by
  have h : x = 0 ∨ x = 1 ∨ x = 2 ∨ x = 3 ∨ x = 4 ∨ x = 5 ∨ x = 6 ∨ x = 7 := by omega
  rcases h with rfl | rfl | rfl | rfl | rfl | rfl | rfl | rfl <;> decide
theorem pz_shr1 {x : Int} (h1 : 0 ≤ x) (h2 : x < 8) : zi x >>> (zi 1 &&& 31) = zi (x / 2) := by
  have h : x = 0 ∨ x = 1 ∨ x = 2 ∨ x = 3 ∨ x = 4 ∨ x = 5 ∨ x = 6 ∨ x = 7 := by omega
  rcases h with rfl | rfl | rfl | rfl | rfl | rfl | rfl | rfl <;> decide
theorem pz_shlp {a : Int} (h1 : 1 ≤ a) (h2 : a ≤ 3) : zi 1 <<< (zi a &&& 31) = zi (2 ^ a.toNat) := by
  have h : a = 1 ∨ a = 2 ∨ a = 3 := by omega
  rcases h with rfl | rfl | rfl <;> decide
theorem pz_nbz {a x y : Int} (h1 : 1 ≤ a) (h2 : a ≤ 3) (h3 : 0 ≤ x) (h4 : x < 8) (h5 : y = 0 ∨ y = 1) : (zi (2 * x) ||| zi y) &&& zi (2 ^ a.toNat - 1) = zi ((pq_nb a.toNat x.toNat y.toNat : Nat) : Int) := by
  have h : a = 1 ∨ a = 2 ∨ a = 3 := by omega
  have g : x = 0 ∨ x = 1 ∨ x = 2 ∨ x = 3 ∨ x = 4 ∨ x = 5 ∨ x = 6 ∨ x = 7 := by omega
  rcases h with rfl | rfl | rfl <;> rcases g with rfl | rfl | rfl | rfl | rfl | rfl | rfl | rfl <;> rcases h5 with rfl | rfl <;> decide +kernel
theorem pz_naz {a x y : Int} (h1 : 1 ≤ a) (h2 : a ≤ 3) (h3 : 0 ≤ x) (h4 : x < 8) (h5 : y = 0 ∨ y = 1) : zi (x / 2) ||| (zi y <<< (zi (a - 1) &&& 31)) = zi ((pq_na a.toNat x.toNat y.toNat : Nat) : Int) := by
  have h : a = 1 ∨ a = 2 ∨ a = 3 := by omega
  have g : x = 0 ∨ x = 1 ∨ x = 2 ∨ x = 3 ∨ x = 4 ∨ x = 5 ∨ x = 6 ∨ x = 7 := by omega
  rcases h with rfl | rfl | rfl <;> rcases g with rfl | rfl | rfl | rfl | rfl | rfl | rfl | rfl <;> rcases h5 with rfl | rfl <;> decide +kernel
theorem pq_nb_lt {a b y : Nat} (h1 : 1 ≤ a) (h2 : a ≤ 3) : pq_nb a b y < 8 := by
  have h : a = 1 ∨ a = 2 ∨ a = 3 := by omega
  unfold pq_nb
  rcases h with rfl | rfl | rfl
  · have := Nat.mod_lt (2 * b ||| y) (show 0 < 2 ^ 1 by decide); omega
  · have := Nat.mod_lt (2 * b ||| y) (show 0 < 2 ^ 2 by decide); omega
  · have := Nat.mod_lt (2 * b ||| y) (show 0 < 2 ^ 3 by decide); omega
theorem pq_na_lt {a x y : Nat} (h1 : 1 ≤ a) (h2 : a ≤ 3) (h3 : x < 8) (h4 : y = 0 ∨ y = 1) : pq_na a x y < 8 := by
  have h : a = 1 ∨ a = 2 ∨ a = 3 := by omega
  have g : x = 0 ∨ x = 1 ∨ x = 2 ∨ x = 3 ∨ x = 4 ∨ x = 5 ∨ x = 6 ∨ x = 7 := by omega
  rcases h with rfl | rfl | rfl <;> rcases g with rfl | rfl | rfl | rfl | rfl | rfl | rfl | rfl <;> rcases h4 with rfl | rfl <;> decide
theorem pz_ncz {T : pq_T} {c h : Int} (hx : 0 ≤ pq_x T c.toNat) (hh : 0 ≤ h) : 2 * pq_x T c.toNat + h % 2 = ((pq_nc T c.toNat h.toNat : Nat) : Int) := by
  unfold pq_nc
  omega
/-! steps of the passes -/
theorem pq_sp_none {T : pq_T} {a : Nat} {w : Int} {G : pq_G} (hw : 0 ≤ w) (h : pq_F T (w / 64)) : pq_sp T a w.toNat G = none := by
  unfold pq_sp
  rw [if_pos (by rw [show ((w.toNat / 64 : Nat) : Int) = w / 64 by omega]; exact h)]
theorem pq_sp_R {T : pq_T} {a : Nat} {w : Int} {G : pq_G} (hw : 0 ≤ w) (h : ¬ pq_F T (w / 64)) (hv : pq_v T (w / 64).toNat = 1) : pq_sp T a w.toNat G = some (pq_sR T a (w / 64).toNat (w / 8 % 8).toNat (w % 8).toNat G) := by
  unfold pq_sp
  have e1 : w.toNat / 64 = (w / 64).toNat := by omega
  have e2 : w.toNat / 8 % 8 = (w / 8 % 8).toNat := by omega
  have e3 : w.toNat % 8 = (w % 8).toNat := by omega
  rw [if_neg (by rw [show ((w.toNat / 64 : Nat) : Int) = w / 64 by omega]; exact h), e1, if_pos hv, e2, e3]
theorem pq_sp_L {T : pq_T} {a : Nat} {w : Int} {G : pq_G} (hw : 0 ≤ w) (h : ¬ pq_F T (w / 64)) (hv : ¬ pq_v T (w / 64).toNat = 1) : pq_sp T a w.toNat G = some (pq_sL T a (w / 64).toNat (w / 8 % 8).toNat (w % 8).toNat G) := by
  unfold pq_sp
  have e1 : w.toNat / 64 = (w / 64).toNat := by omega
  have e2 : w.toNat / 8 % 8 = (w / 8 % 8).toNat := by omega
  have e3 : w.toNat % 8 = (w % 8).toNat := by omega
  rw [if_neg (by rw [show ((w.toNat / 64 : Nat) : Int) = w / 64 by omega]; exact h), e1, if_neg hv, e2, e3]
theorem pq_xr_t {a nc b h x : Nat} {G : pq_G} (q : pq_gr G (pq_na a h x) = true) : pq_xr a nc b h x G = pq_aw G (pq_wn nc b (pq_na a h x)) := if_pos q
theorem pq_xr_f {a nc b h x : Nat} {G : pq_G} (q : ¬ pq_gr G (pq_na a h x) = true) : pq_xr a nc b h x G = G := if_neg q
theorem pq_xl_t {a nc b h x : Nat} {G : pq_G} (q : pq_gl G (pq_na a h x) = true) : pq_xl a nc b h x G = pq_aw G (pq_wn nc (pq_na a h x) b) := if_pos q
theorem pq_xl_f {a nc b h x : Nat} {G : pq_G} (q : ¬ pq_gl G (pq_na a h x) = true) : pq_xl a nc b h x G = G := if_neg q
theorem pq_gc_al (G : pq_G) (k : Nat) : pq_gc (pq_al G k) = pq_gc G := by
  unfold pq_al
  split <;> rfl
theorem pq_gc_ar (G : pq_G) (k : Nat) : pq_gc (pq_ar G k) = pq_gc G := by
  unfold pq_ar
  split <;> rfl
theorem pq_gc_aw {G : pq_G} (h : pq_gc G ≤ 512) (k : Nat) : pq_gc (pq_aw G k) ≤ 512 := by
  unfold pq_aw
  split
  · exact h
  · split
    · show pq_gc G + 1 ≤ 512
      omega
    · exact h
theorem pq_gc_xr {G : pq_G} (h : pq_gc G ≤ 512) (a nc b q x : Nat) : pq_gc (pq_xr a nc b q x G) ≤ 512 := by
  unfold pq_xr
  split
  · exact pq_gc_aw h _
  · exact h
theorem pq_gc_xl {G : pq_G} (h : pq_gc G ≤ 512) (a nc b q x : Nat) : pq_gc (pq_xl a nc b q x G) ≤ 512 := by
  unfold pq_xl
  split
  · exact pq_gc_aw h _
  · exact h
theorem pq_J_gc {G : pq_G} (h : pq_J G) : pq_gc G ≤ 512 := by rw [h.2.2]; exact pq_ct_le _ 512
theorem pq_ps_end {T : pq_T} {a f i : Nat} {G : pq_G} (h : ¬ (i < pq_gc G ∧ i < 512)) : pq_ps T a f i G = some G := by
  cases f with
  | zero => rfl
  | succ f => unfold pq_ps; rw [if_neg h]
theorem pq_ps_no {T : pq_T} {a f i : Nat} {G : pq_G} (h : i < pq_gc G ∧ i < 512) (hs : pq_sp T a (pq_gf G i) G = none) : pq_ps T a (f + 1) i G = none := by
  unfold pq_ps
  rw [if_pos h, hs]
theorem pq_ps_yes {T : pq_T} {a f i : Nat} {G G1 : pq_G} (h : i < pq_gc G ∧ i < 512) (hs : pq_sp T a (pq_gf G i) G = some G1) : pq_ps T a (f + 1) i G = pq_ps T a f (i + 1) G1 := by
  conv => lhs; unfold pq_ps
  rw [if_pos h, hs]
theorem pq_cl_no {T : pq_T} {a f : Nat} {G : pq_G} (h : pq_ps T a 512 0 (pq_old G) = none) : pq_cl T a (f + 1) G = false := by
  unfold pq_cl
  rw [h]
theorem pq_cl_new {T : pq_T} {a f : Nat} {G G1 : pq_G} (h : pq_ps T a 512 0 (pq_old G) = some G1) (hn : ¬ pq_bn G1 = 0) : pq_cl T a (f + 1) G = pq_cl T a f G1 := by
  have e : pq_gn G1 = true := by
    by_cases q : pq_gn G1 = true
    · exact q
    · exact absurd (if_neg q) hn
  conv => lhs; unfold pq_cl
  rw [h]
  exact if_pos e
theorem pq_cl_old {T : pq_T} {a f : Nat} {G G1 : pq_G} (h : pq_ps T a 512 0 (pq_old G) = some G1) (hn : pq_bn G1 = 0) : pq_cl T a (f + 1) G = true := by
  have e : ¬ pq_gn G1 = true := fun q => by
    unfold pq_bn at hn
    rw [if_pos q] at hn
    omega
  unfold pq_cl
  rw [h]
  exact if_neg e
theorem pq_hr_old {G : pq_G} {fF ff fl fr : Nat → Int} {n nw : Int} (h : pq_hr G fF ff fl fr n nw) : pq_hr (pq_old G) fF ff fl fr n 0 := ⟨h.1, h.2.1, h.2.2.1, h.2.2.2.1, h.2.2.2.2.1, rfl⟩
/-- what is found is a window's number -/
def pq_fd (G : pq_G) : Prop := ∀ i, i < pq_gc G → pq_gf G i < 512
theorem pq_fd_g0 : pq_fd pq_g0 := fun i _ => by show 0 < 512; omega
theorem pq_fd_al {G : pq_G} (h : pq_fd G) (k : Nat) : pq_fd (pq_al G k) := by
  unfold pq_al
  split
  · exact h
  · exact h
theorem pq_fd_ar {G : pq_G} (h : pq_fd G) (k : Nat) : pq_fd (pq_ar G k) := by
  unfold pq_ar
  split
  · exact h
  · exact h
theorem pq_fd_aw {G : pq_G} (h : pq_fd G) (k : Nat) : pq_fd (pq_aw G k) := by
  unfold pq_aw
  by_cases q : 512 ≤ k ∨ pq_gF G k = true
  · rw [if_pos q]; exact h
  · rw [if_neg q]
    by_cases hc : pq_gc G < 512
    · rw [if_pos hc]
      intro i hi
      have hi : i < pq_gc G + 1 := hi
      show pq_un (pq_gf G) (pq_gc G) k i < 512
      unfold pq_un
      by_cases e : i = pq_gc G
      · rw [if_pos e]; exact Nat.lt_of_not_le (fun z => q (Or.inl z))
      · rw [if_neg e]; exact h i (by omega)
    · rw [if_neg hc]; exact h
theorem pq_fd_sp {T : pq_T} {a w : Nat} {G G1 : pq_G} (h : pq_fd G) (hs : pq_sp T a w G = some G1) : pq_fd G1 := by
  have hxr : ∀ (a nc b q x : Nat) (G : pq_G), pq_fd G → pq_fd (pq_xr a nc b q x G) := fun a nc b q x G h => by
    unfold pq_xr
    split
    · exact pq_fd_aw h _
    · exact h
  have hxl : ∀ (a nc b q x : Nat) (G : pq_G), pq_fd G → pq_fd (pq_xl a nc b q x G) := fun a nc b q x G h => by
    unfold pq_xl
    split
    · exact pq_fd_aw h _
    · exact h
  unfold pq_sp at hs
  by_cases hF : pq_F T ((w / 64 : Nat) : Int)
  · rw [if_pos hF] at hs; cases hs
  · rw [if_neg hF] at hs
    by_cases hv : pq_v T (w / 64) = 1
    · rw [if_pos hv] at hs; cases hs; exact hxr _ _ _ _ _ _ (hxr _ _ _ _ _ _ (pq_fd_al h _))
    · rw [if_neg hv] at hs; cases hs; exact hxl _ _ _ _ _ _ (hxl _ _ _ _ _ _ (pq_fd_ar h _))
