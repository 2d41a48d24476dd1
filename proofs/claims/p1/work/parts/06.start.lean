theorem zw_range {x lo hi : Int32} (h : zw x lo hi = 1) : lo.toInt ≤ x.toInt ∧ x.toInt ≤ hi.toInt := by
  unfold zw at h
  split at h
  · rename_i q
    exact ⟨Int32.le_iff_toInt_le.mp q.1, Int32.le_iff_toInt_le.mp q.2⟩
  · exact absurd h (by decide)
theorem zw_is {x k : Int32} {n : Int} (h : x.toInt = n) (hk : k.toInt = n) : x = k := Int32.toInt_inj.mp (h.trans hk.symm)
set_option maxHeartbeats 4000000 in
set_option maxRecDepth 100000 in
theorem law_head {p : Program} {l : Launch} (hnt : l.stackTraces = false) {e : Env} {s : State} {m : MethodId} {below : List Frame} {meth : Method} {c : Code} {dC : Nat → ClassId} {dI : Nat → Nat → Nat} {a0 b L : Nat} {xs : Nat → Int32} (hL : L ≤ 7) (C0 : lw_At p s m meth c b L xs) {A : Nat → Prop} (hA : ∀ q : Nat, s.heap.size ≤ q → A q) (hA2 : ∀ q : Nat, A q → s.heap.size ≤ q) (hZ : zB a0 A s s.heap) {x0 : Nat} {qm : Nat} {qt : Nat} {qw : Nat} {qc : Nat} {qb : Nat} {qg : Nat} {m0 : Nat} {l1 : Nat} {l2 : Nat} {qo : Nat} {qd : Nat} {cM : ClassId} {cT : ClassId} {cL : ClassId} {cD : ClassId} {H : Heap} {locs : List Loc} (hK : va_K (dC, dI) vwCl [(cM, .object "Haltingale$Machine"), (cT, .object "Haltingale$Tag"), (cL, .long), (cD, .double)] s) (hP : va_P (dC, dI) vwCl [(x0, .inr (9, [.ref qm, .ref qt, .ref qw, .ref qc, .ref qb, .ref qg, .int 0, .int 0, .int 0, .int 0, .int 0])), (qm, .inl (cM, 12, .inr (.inr (.inr (.inr (fun _ => none)))))), (qt, .inl (cT, 4, .inr (.inr (.inr (.inr (fun _ => none)))))), (m0, .inr (12, [.int 0, .ref l1, .ref l2, .int 0, .int 0, .int 0, .long 0])), (l1, .inr (1, [.int 0, .ref a0, .int 0])), (l2, .inr (1, [.int 0, .ref a0, .int 0])), (qo, .inl (cL, 1, .inr (.inl (fun _ => 0)))), (qd, .inl (cD, 1, .inr (.inr (.inr (.inl (fun _ => 0))))))] H) (hD : va_D A [(x0, .inr (9, [.ref qm, .ref qt, .ref qw, .ref qc, .ref qb, .ref qg, .int 0, .int 0, .int 0, .int 0, .int 0])), (qm, .inl (cM, 12, .inr (.inr (.inr (.inr (fun _ => none)))))), (qt, .inl (cT, 4, .inr (.inr (.inr (.inr (fun _ => none)))))), (m0, .inr (12, [.int 0, .ref l1, .ref l2, .int 0, .int 0, .int 0, .long 0])), (l1, .inr (1, [.int 0, .ref a0, .int 0])), (l2, .inr (1, [.int 0, .ref a0, .int 0])), (qo, .inl (cL, 1, .inr (.inl (fun _ => 0)))), (qd, .inl (cD, 1, .inr (.inr (.inr (.inl (fun _ => 0))))))]) (hS : va_S A s.heap H locs) {ls : Array Slot} (hl : lv_has ls 10 [(5, .int 0), (4, .ref qd), (3, .ref qo), (2, .ref m0), (1, .ref x0), (0, .ref b)]) : W p l e room_1 s m #[Value.ref b] below meth c H locs 31 4324 (lw_Z below #[Value.ref b] s) (F0 m 28 ls []) := by
  obtain ⟨hx, hb, hr, hml, hown, hts0, hX, hbl, hlocks, hgv⟩ := id C0
  have hbA : ¬ A b := fun h => absurd (hA2 b h) (Nat.not_le.mpr hbl)
  refine lv_iload hx hb dL_law_28 (lv_at hl 0 rfl) ?_
  refine lv_aload_n hx hb dL_law_30 rfl (lv_at hl 5 rfl) ?_
  refine va_slen hx hb hX hbl hbA hS dL_law_31 ?_
  refine lv_bipush (v := 7) hx hb dL_law_32 (by decide) ?_
  refine lv_isub hx hb dL_law_34 ?_
  refine lv_icmp_gt (tgt := 1812) hx hb dL_law_35 (by decide) (fun c_1 => ?_) (fun c_1 => ?_)
  · refine lv_iconst (v := 1) hx hb dL_law_1812 (by decide) ?_
    refine va_forget (fun q hq => hA2 _ (hS.2.2 q hq)) ?_
    refine W.widen (k := room_1.cells) (n := room_1.slots) (Nat.le_of_ble_eq_true rfl) (Nat.le_of_ble_eq_true rfl) ?_
    exact lw_ret0 hx hb hr hlocks dL_law_1813
  · have hL7 : L = 7 := by
      rcases (show L = 0 ∨ L = 1 ∨ L = 2 ∨ L = 3 ∨ L = 4 ∨ L = 5 ∨ L = 6 ∨ L = 7 by omega) with rfl | rfl | rfl | rfl | rfl | rfl | rfl | rfl <;> first | rfl | exact absurd (by decide) c_1
    subst hL7
    refine lv_aload_n hx hb dL_law_38 rfl (lv_at hl 5 rfl) ?_
    refine lv_iload hx hb dL_law_39 (lv_at hl 0 rfl) ?_
    refine va_sld hx hb hX hbl hbA hS (by unfold vp_in; decide) dL_law_41 ?_
    refine lv_bipush (v := 31) hx hb dL_law_42 (by decide) ?_
    refine lv_iand hx hb dL_law_44 ?_
    refine lv_topi (fun z ez => ?_)
    obtain ⟨j, hj, ej⟩ := pk_andE (xs ((0 : Int32).toNatClampNeg)) (m := 31) 5 (by decide)
    have hj : j < 32 := hj
    have ez := ez.trans ej
    rcases (show j = 0 ∨ j = 1 ∨ j = 2 ∨ j = 3 ∨ j = 4 ∨ j = 5 ∨ j = 6 ∨ j = 7 ∨ j = 8 ∨ j = 9 ∨ j = 10 ∨ j = 11 ∨ j = 12 ∨ j = 13 ∨ j = 14 ∨ j = 15 ∨ j = 16 ∨ j = 17 ∨ j = 18 ∨ j = 19 ∨ j = 20 ∨ j = 21 ∨ j = 22 ∨ j = 23 ∨ j = 24 ∨ j = 25 ∨ j = 26 ∨ j = 27 ∨ j = 28 ∨ j = 29 ∨ j = 30 ∨ j = 31 by omega) with rfl | rfl | rfl | rfl | rfl | rfl | rfl | rfl | rfl | rfl | rfl | rfl | rfl | rfl | rfl | rfl | rfl | rfl | rfl | rfl | rfl | rfl | rfl | rfl | rfl | rfl | rfl | rfl | rfl | rfl | rfl | rfl
    · obtain rfl : z = 0 := ez.trans (by decide)
      refine lv_tableIn (tgt := 152) hx hb dL_law_45 (by decide) (by decide) rfl (by decide) ?_
      rcases zw_or (xs ((1 : Int32).toNatClampNeg)) 2 4 with hp | hp
      · have hq := zw_range hp
        have h1 : (2 : Int32).toInt = 2 := by decide
        have h2 : (4 : Int32).toInt = 4 := by decide
        rcases (show (xs ((1 : Int32).toNatClampNeg)).toInt = 2 ∨ (xs ((1 : Int32).toNatClampNeg)).toInt = 3 ∨ (xs ((1 : Int32).toNatClampNeg)).toInt = 4 by omega) with h12 | h13 | h14
        · exact law_0_2 hnt C0 hA hA2 hZ hK hP hD hS hl (zw_is h12 (by decide))
        · exact law_0_3 hnt C0 hA hA2 hZ hK hP hD hS hl (zw_is h13 (by decide))
        · exact law_0_4 hnt C0 hA hA2 hZ hK hP hD hS hl (zw_is h14 (by decide))
      · exact law_0_no hnt C0 hA hA2 hZ hK hP hD hS hl hp
    · obtain rfl : z = 1 := ez.trans (by decide)
      refine lv_tableIn (tgt := 208) hx hb dL_law_45 (by decide) (by decide) rfl (by decide) ?_
      exact law_1 hnt C0 hA hA2 hZ hK hP hD hS hl
    · obtain rfl : z = 2 := ez.trans (by decide)
      refine lv_tableIn (tgt := 326) hx hb dL_law_45 (by decide) (by decide) rfl (by decide) ?_
      exact law_2 hnt C0 hA hA2 hZ hK hP hD hS hl
    · obtain rfl : z = 3 := ez.trans (by decide)
      refine lv_tableIn (tgt := 451) hx hb dL_law_45 (by decide) (by decide) rfl (by decide) ?_
      exact law_3 hnt C0 hA hA2 hZ hK hP hD hS hl
    · obtain rfl : z = 4 := ez.trans (by decide)
      refine lv_tableIn (tgt := 519) hx hb dL_law_45 (by decide) (by decide) rfl (by decide) ?_
      rcases zw_or (xs ((1 : Int32).toNatClampNeg)) 1 3 with h0 | h0
      · rcases zw_or (xs ((2 : Int32).toNatClampNeg)) 1 63 with h1 | h1
        · rcases zw_or (xs ((3 : Int32).toNatClampNeg)) 1 63 with h2 | h2
          · exact law_4_ok hnt C0 hA hA2 hZ hK hP hD hS hl h0 h1 h2
          · exact law_4_no3 hnt C0 hA hA2 hZ hK hP hD hS hl h0 h1 h2
        · exact law_4_no2 hnt C0 hA hA2 hZ hK hP hD hS hl h0 h1
      · exact law_4_no1 hnt C0 hA hA2 hZ hK hP hD hS hl h0
    · obtain rfl : z = 5 := ez.trans (by decide)
      refine lv_tableIn (tgt := 599) hx hb dL_law_45 (by decide) (by decide) rfl (by decide) ?_
      exact law_5 hnt C0 hA hA2 hZ hK hP hD hS hl
    · obtain rfl : z = 6 := ez.trans (by decide)
      refine lv_tableIn (tgt := 698) hx hb dL_law_45 (by decide) (by decide) rfl (by decide) ?_
      exact (zw_or (xs ((1 : Int32).toNatClampNeg)) 0 3).elim (fun hp => law_6_ok hnt C0 hA hA2 hZ hK hP hD hS hl hp) (fun hp => law_6_no hnt C0 hA hA2 hZ hK hP hD hS hl hp)
    · obtain rfl : z = 7 := ez.trans (by decide)
      refine lv_tableIn (tgt := 754) hx hb dL_law_45 (by decide) (by decide) rfl (by decide) ?_
      exact law_7 hnt C0 hA hA2 hZ hK hP hD hS hl
    · obtain rfl : z = 8 := ez.trans (by decide)
      refine lv_tableIn (tgt := 810) hx hb dL_law_45 (by decide) (by decide) rfl (by decide) ?_
      exact law_8 hnt C0 hA hA2 hZ hK hP hD hS hl
    · obtain rfl : z = 9 := ez.trans (by decide)
      refine lv_tableIn (tgt := 902) hx hb dL_law_45 (by decide) (by decide) rfl (by decide) ?_
      exact law_9 hnt C0 hA hA2 hZ hK hP hD hS hl
    · obtain rfl : z = 10 := ez.trans (by decide)
      refine lv_tableIn (tgt := 970) hx hb dL_law_45 (by decide) (by decide) rfl (by decide) ?_
      exact law_10 hnt C0 hA hA2 hZ hK hP hD hS hl
    · obtain rfl : z = 11 := ez.trans (by decide)
      refine lv_tableIn (tgt := 1050) hx hb dL_law_45 (by decide) (by decide) rfl (by decide) ?_
      exact law_11 hnt C0 hA hA2 hZ hK hP hD hS hl
    · obtain rfl : z = 12 := ez.trans (by decide)
      refine lv_tableIn (tgt := 1130) hx hb dL_law_45 (by decide) (by decide) rfl (by decide) ?_
      exact law_12 hnt C0 hA hA2 hZ hK hP hD hS hl
    · obtain rfl : z = 13 := ez.trans (by decide)
      refine lv_tableIn (tgt := 1219) hx hb dL_law_45 (by decide) (by decide) rfl (by decide) ?_
      exact law_13 hnt C0 hA hA2 hZ hK hP hD hS hl
    · obtain rfl : z = 14 := ez.trans (by decide)
      refine lv_tableIn (tgt := 1311) hx hb dL_law_45 (by decide) (by decide) rfl (by decide) ?_
      exact law_14 hnt C0 hA hA2 hZ hK hP hD hS hl
    · obtain rfl : z = 15 := ez.trans (by decide)
      refine lv_tableIn (tgt := 1379) hx hb dL_law_45 (by decide) (by decide) rfl (by decide) ?_
      exact (zw_or (xs ((1 : Int32).toNatClampNeg)) 0 1).elim (fun hp => law_15_ok hnt C0 hA hA2 hZ hK hP hD hS hl hp) (fun hp => law_15_no hnt C0 hA hA2 hZ hK hP hD hS hl hp)
    · obtain rfl : z = 16 := ez.trans (by decide)
      refine lv_tableIn (tgt := 1435) hx hb dL_law_45 (by decide) (by decide) rfl (by decide) ?_
      exact law_16 hnt C0 hA hA2 hZ hK hP hD hS hl
    · obtain rfl : z = 17 := ez.trans (by decide)
      refine lv_tableIn (tgt := 1515) hx hb dL_law_45 (by decide) (by decide) rfl (by decide) ?_
      rcases zw_or (xs ((1 : Int32).toNatClampNeg)) 0 10 with hp | hp
      · have hq := zw_range hp
        have h1 : (0 : Int32).toInt = 0 := by decide
        have h2 : (10 : Int32).toInt = 10 := by decide
        rcases (show (xs ((1 : Int32).toNatClampNeg)).toInt = 0 ∨ (xs ((1 : Int32).toNatClampNeg)).toInt = 1 ∨ (xs ((1 : Int32).toNatClampNeg)).toInt = 2 ∨ (xs ((1 : Int32).toNatClampNeg)).toInt = 3 ∨ (xs ((1 : Int32).toNatClampNeg)).toInt = 4 ∨ (xs ((1 : Int32).toNatClampNeg)).toInt = 5 ∨ (xs ((1 : Int32).toNatClampNeg)).toInt = 6 ∨ (xs ((1 : Int32).toNatClampNeg)).toInt = 7 ∨ (xs ((1 : Int32).toNatClampNeg)).toInt = 8 ∨ (xs ((1 : Int32).toNatClampNeg)).toInt = 9 ∨ (xs ((1 : Int32).toNatClampNeg)).toInt = 10 by omega) with h10 | h11 | h12 | h13 | h14 | h15 | h16 | h17 | h18 | h19 | h20
        · exact law_17_0 hnt C0 hA hA2 hZ hK hP hD hS hl (zw_is h10 (by decide))
        · exact law_17_1 hnt C0 hA hA2 hZ hK hP hD hS hl (zw_is h11 (by decide))
        · exact law_17_2 hnt C0 hA hA2 hZ hK hP hD hS hl (zw_is h12 (by decide))
        · exact law_17_3 hnt C0 hA hA2 hZ hK hP hD hS hl (zw_is h13 (by decide))
        · exact law_17_4 hnt C0 hA hA2 hZ hK hP hD hS hl (zw_is h14 (by decide))
        · exact law_17_5 hnt C0 hA hA2 hZ hK hP hD hS hl (zw_is h15 (by decide))
        · exact law_17_6 hnt C0 hA hA2 hZ hK hP hD hS hl (zw_is h16 (by decide))
        · exact law_17_7 hnt C0 hA hA2 hZ hK hP hD hS hl (zw_is h17 (by decide))
        · exact law_17_8 hnt C0 hA hA2 hZ hK hP hD hS hl (zw_is h18 (by decide))
        · exact law_17_9 hnt C0 hA hA2 hZ hK hP hD hS hl (zw_is h19 (by decide))
        · exact law_17_10 hnt C0 hA hA2 hZ hK hP hD hS hl (zw_is h20 (by decide))
      · exact law_17_no hnt C0 hA hA2 hZ hK hP hD hS hl hp
    · obtain rfl : z = 18 := ez.trans (by decide)
      refine lv_tableIn (tgt := 1571) hx hb dL_law_45 (by decide) (by decide) rfl (by decide) ?_
      exact law_18 hnt C0 hA hA2 hZ hK hP hD hS hl
    · obtain rfl : z = 19 := ez.trans (by decide)
      refine lv_tableIn (tgt := 1612) hx hb dL_law_45 (by decide) (by decide) rfl (by decide) ?_
      exact law_19 hnt C0 hA hA2 hZ hK hP hD hS hl
    · obtain rfl : z = 20 := ez.trans (by decide)
      refine lv_tableIn (tgt := 1680) hx hb dL_law_45 (by decide) (by decide) rfl (by decide) ?_
      exact law_20 hnt C0 hA hA2 hZ hK hP hD hS hl
    · obtain rfl : z = 21 := ez.trans (by decide)
      refine lv_tableIn (tgt := 1736) hx hb dL_law_45 (by decide) (by decide) rfl (by decide) ?_
      exact law_21 hnt C0 hA hA2 hZ hK hP hD hS hl
    · obtain rfl : z = 22 := ez.trans (by decide)
      refine lv_tableIn (tgt := 1792) hx hb dL_law_45 (by decide) (by decide) rfl (by decide) ?_
      exact law_22 hnt C0 hA hA2 hZ hK hP hD hS hl
    · obtain rfl : z = 23 := ez.trans (by decide)
      refine lv_tableOut (tgt := 1806) hx hb dL_law_45 (by decide) (by decide) ?_
      exact law_rest hnt C0 hA hA2 hZ hK hP hD hS hl
    · obtain rfl : z = 24 := ez.trans (by decide)
      refine lv_tableOut (tgt := 1806) hx hb dL_law_45 (by decide) (by decide) ?_
      exact law_rest hnt C0 hA hA2 hZ hK hP hD hS hl
    · obtain rfl : z = 25 := ez.trans (by decide)
      refine lv_tableOut (tgt := 1806) hx hb dL_law_45 (by decide) (by decide) ?_
      exact law_rest hnt C0 hA hA2 hZ hK hP hD hS hl
    · obtain rfl : z = 26 := ez.trans (by decide)
      refine lv_tableOut (tgt := 1806) hx hb dL_law_45 (by decide) (by decide) ?_
      exact law_rest hnt C0 hA hA2 hZ hK hP hD hS hl
    · obtain rfl : z = 27 := ez.trans (by decide)
      refine lv_tableOut (tgt := 1806) hx hb dL_law_45 (by decide) (by decide) ?_
      exact law_rest hnt C0 hA hA2 hZ hK hP hD hS hl
    · obtain rfl : z = 28 := ez.trans (by decide)
      refine lv_tableOut (tgt := 1806) hx hb dL_law_45 (by decide) (by decide) ?_
      exact law_rest hnt C0 hA hA2 hZ hK hP hD hS hl
    · obtain rfl : z = 29 := ez.trans (by decide)
      refine lv_tableOut (tgt := 1806) hx hb dL_law_45 (by decide) (by decide) ?_
      exact law_rest hnt C0 hA hA2 hZ hK hP hD hS hl
    · obtain rfl : z = 30 := ez.trans (by decide)
      refine lv_tableOut (tgt := 1806) hx hb dL_law_45 (by decide) (by decide) ?_
      exact law_rest hnt C0 hA hA2 hZ hK hP hD hS hl
    · obtain rfl : z = 31 := ez.trans (by decide)
      refine lv_tableOut (tgt := 1806) hx hb dL_law_45 (by decide) (by decide) ?_
      exact law_rest hnt C0 hA hA2 hZ hK hP hD hS hl
theorem zz_str {s : State} {own tx : String} {k cur : Nat} {A : Array Value} (hcur : s.vm.findClass own = some cur) (h : (Cond.stringRef own k tx).before A s = true) : ∃ a : Nat, vk_R own k tx a s := by
  obtain ⟨k1, cf, i, a, -, -, -, -, -, h6⟩ := Cond.stringRef_spec hcur (show (Cond.stringRef own k tx).holds A s none s [] = true from h)
  exact ⟨a, vk_R.of h h6⟩
theorem zz_known {s : State} {b : Nat} (hts : ∀ w ∈ lw_tbl, w.before #[Value.ref b] s = true) : ∃ (dC : Nat → ClassId) (dI : Nat → Nat → Nat), ∀ (k : Nat) (q : vw_C), vwCl[k]? = some q → u_Kn s q.1 q.2.1 q.2.2 (dC k) (dI k) := by
  obtain ⟨c0, i0, k0⟩ := u_known (C := RJx35411) (T := TJx35411) (N := 4) (n := 4) hts inJx35411 (hts (.instantiable RJx35411 4) (by decide +kernel))
  obtain ⟨c1, i1, k1⟩ := u_known (C := RJx4a65c) (T := TJx4a65c) (N := 3) (n := 3) hts inJx4a65c (hts (.instantiable RJx4a65c 3) (by decide +kernel))
  obtain ⟨c2, i2, k2⟩ := u_known (C := RX0) (T := TX0) (N := 2) (n := 2) hts inX0 (hts (.instantiable RX0 2) (by decide +kernel))
  obtain ⟨c3, i3, k3⟩ := u_known (C := RX1) (T := TX1) (N := 4) (n := 4) hts inX1 (hts (.instantiable RX1 4) (by decide +kernel))
  obtain ⟨c4, i4, k4⟩ := u_known (C := RX2) (T := TX2) (N := 7) (n := 7) hts inX2 (hts (.instantiable RX2 7) (by decide +kernel))
  obtain ⟨c5, i5, k5⟩ := u_known (C := RX3) (T := TX3) (N := 7) (n := 7) hts inX3 (hts (.instantiable RX3 7) (by decide +kernel))
  obtain ⟨c6, i6, k6⟩ := u_known (C := RX4) (T := TX4) (N := 5) (n := 5) hts inX4 (hts (.instantiable RX4 5) (by decide +kernel))
  obtain ⟨c7, i7, k7⟩ := u_known (C := RX5) (T := TX5) (N := 3) (n := 3) hts inX5 (hts (.instantiable RX5 3) (by decide +kernel))
  obtain ⟨c8, i8, k8⟩ := u_known (C := RX6) (T := TX6) (N := 6) (n := 6) hts inX6 (hts (.instantiable RX6 6) (by decide +kernel))
  obtain ⟨c9, i9, k9⟩ := u_known (C := RX7) (T := TX7) (N := 11) (n := 11) hts inX7 (hts (.instantiable RX7 11) (by decide +kernel))
  obtain ⟨c10, i10, k10⟩ := u_known (C := RX8) (T := TX8) (N := 5) (n := 5) hts inX8 (hts (.instantiable RX8 5) (by decide +kernel))
  obtain ⟨c11, i11, k11⟩ := u_known (C := RX9) (T := TX9) (N := 8) (n := 8) hts inX9 (hts (.instantiable RX9 8) (by decide +kernel))
  obtain ⟨c12, i12, k12⟩ := u_known (C := RX10) (T := TX10) (N := 7) (n := 7) hts inX10 (hts (.instantiable RX10 7) (by decide +kernel))
  refine ⟨fun k => if k = 0 then c0 else if k = 1 then c1 else if k = 2 then c2 else if k = 3 then c3 else if k = 4 then c4 else if k = 5 then c5 else if k = 6 then c6 else if k = 7 then c7 else if k = 8 then c8 else if k = 9 then c9 else if k = 10 then c10 else if k = 11 then c11 else c12, fun k => if k = 0 then i0 else if k = 1 then i1 else if k = 2 then i2 else if k = 3 then i3 else if k = 4 then i4 else if k = 5 then i5 else if k = 6 then i6 else if k = 7 then i7 else if k = 8 then i8 else if k = 9 then i9 else if k = 10 then i10 else if k = 11 then i11 else i12, ?_⟩
  intro k q hq
  match k, hq with
  | 0, hq => cases hq; exact k0
  | 1, hq => cases hq; exact k1
  | 2, hq => cases hq; exact k2
  | 3, hq => cases hq; exact k3
  | 4, hq => cases hq; exact k4
  | 5, hq => cases hq; exact k5
  | 6, hq => cases hq; exact k6
  | 7, hq => cases hq; exact k7
  | 8, hq => cases hq; exact k8
  | 9, hq => cases hq; exact k9
  | 10, hq => cases hq; exact k10
  | 11, hq => cases hq; exact k11
  | 12, hq => cases hq; exact k12
  | k + 13, hq => simp [vwCl] at hq
theorem zz_start {s : State} {b : Nat} {A : Nat → Prop} (hts : ∀ w ∈ lw_tbl, w.before #[Value.ref b] s = true) (hgv : (Jvm.Cond.and given_1 narrow_1).before #[Value.ref b] s = true) (hAn : ∀ a : Nat, a < s.heap.size → ¬ A a) {cX : Nat} (hcX : s.vm.findClass RX7 = some cX) : ∃ a0 : Nat, zB a0 A s s.heap := by
  have hs := flat_of_before _ hgv
  have hlen : (Term.length (.static "java/util/ArrayList" "DEFAULTCAPACITY_EMPTY_ELEMENTDATA" "[Ljava/lang/Object;")).eval #[Value.ref b] s none [] s = some (.int 0) := va_eqt (hs (.eq (.length (.static "java/util/ArrayList" "DEFAULTCAPACITY_EMPTY_ELEMENTDATA" "[Ljava/lang/Object;")) (.int 0)) (by decide +kernel))
  obtain ⟨a0, hev, har⟩ := va_Tof (A := A) (N := 0) (f := fun _ => .null) (by decide) (hs (.arrayOf (.static "java/util/ArrayList" "DEFAULTCAPACITY_EMPTY_ELEMENTDATA" "[Ljava/lang/Object;") (.object "java/lang/Object")) (by decide +kernel)) hlen (fun j hj => absurd hj (Nat.not_lt_zero j)) hAn
  refine ⟨a0, ?_, ?_, ?_, har, ?_, ?_, ?_, ?_, ?_, ?_, ?_, ?_, ?_, ?_, ?_, ?_, ?_, ?_⟩
  · exact vx_Zqof (hts (.laysStatic Bundle.tN "UNASSIGNED_STACK" Bundle.steD) (by decide +kernel)) (hts (.initialized Bundle.tN) (by decide +kernel)) (hs (.isRef (.static Bundle.tN "UNASSIGNED_STACK" Bundle.steD)) (by decide +kernel)) hAn
  · exact vx_Zqof (hts (.laysStatic Bundle.tN "SUPPRESSED_SENTINEL" Bundle.listD) (by decide +kernel)) (hts (.initialized Bundle.tN) (by decide +kernel)) (hs (.isRef (.static Bundle.tN "SUPPRESSED_SENTINEL" Bundle.listD)) (by decide +kernel)) hAn
  · exact va_Zref (hts (.laysStatic "java/util/ArrayList" "DEFAULTCAPACITY_EMPTY_ELEMENTDATA" "[Ljava/lang/Object;") (by decide +kernel)) (hts (.initialized "java/util/ArrayList") (by decide +kernel)) hev hAn
  · exact va_AO.of (hts (.arrayOver (.object "Haltingale$Machine")) (by decide +kernel))
  · exact va_AO.of (hts (.arrayOver (.object "Haltingale$Tag")) (by decide +kernel))
  · exact va_AO.of (hts (.arrayOver (.object "java/lang/Object")) (by decide +kernel))
  · exact hts (.arrayOver (.array .int)) (by decide +kernel)
  · exact va_Fw.of (hts (.declares ⟨"java/util/Iterator", "hasNext", "()Z"⟩) (by decide +kernel)) (hts (.interfaceMethod "java/util/Iterator" "java/util/Iterator" "hasNext" "()Z") (by decide +kernel)) (hts (.publicMethod yJx35411_hasNext_aae02) (by decide +kernel)) (hts (.unhidden RJx35411 "hasNext" "()Z") (by decide +kernel)) (hts (.castable RJx35411 "java/util/Iterator") (by decide +kernel))
  · exact zz_str hcX (hts (.stringRef RX7 294 "a number is out of its range") (by decide +kernel))
  · exact zz_str hcX (hts (.stringRef RX7 303 "there is no such machine") (by decide +kernel))
  · exact zz_str hcX (hts (.stringRef RX7 308 "there is no such tag") (by decide +kernel))
  · exact va_Nw.of rfl (hts (.fieldLinkNest RJx35411 28 "java/util/ArrayList" "size" "I" "java/util/ArrayList") (by decide +kernel))
  · exact va_Nw.of rfl (hts (.castable "[I" "java/lang/Object") (by decide +kernel))
  · exact va_Nw.of rfl (hts (.castable "HaltingaleModel$Machine" "java/lang/Object") (by decide +kernel))
  · exact va_Nw.of rfl (hts (.declares (Bundle.initS "java/lang/RuntimeException")) (by decide +kernel))
  · exact va_Nw.of rfl (hts (.declares (Bundle.initS "java/lang/Exception")) (by decide +kernel))
  · exact va_Nw.of rfl (hts (.declares (Bundle.initS "java/lang/Throwable")) (by decide +kernel))
set_option maxHeartbeats 4000000 in
set_option maxRecDepth 100000 in
/-- from the entry, for every script of at most 7 ints, the law comes to its end with true -/
theorem whole_start {p : Program} {e : Env} {s : State} {m : MethodId} {below : List Frame} {meth : Method} {c : Code} (l : Launch) (hflags : l.flags = flags0) {b L : Nat} {xs : Nat → Int32} (hL : L ≤ 7) (C0 : lw_At p s m meth c b L xs) : W p l e room_1 s m #[Value.ref b] below meth c s.heap [] 0 0 (lw_Z below #[Value.ref b] s) (entryFrame m ([Value.ref b] : List Value).toArray 10) := by
  have hnt : l.stackTraces = false := by
    unfold Launch.stackTraces
    rw [hflags]
    decide
  obtain ⟨hx, hb, hr, hml, hown, hts0, hX, hbl, hlocks, hgv⟩ := id C0
  have hts : ∀ w ∈ zs_law, w.before #[Value.ref b] s = true := fun w h => hts0 w (zs_law_in w h)
  obtain ⟨A, hAe⟩ : ∃ A : Nat → Prop, A = fun q => s.heap.size ≤ q := ⟨_, rfl⟩
  have hA : ∀ q : Nat, s.heap.size ≤ q → A q := fun q h => by rw [hAe]; exact h
  have hA2 : ∀ q : Nat, A q → s.heap.size ≤ q := fun q h => by rw [hAe] at h; exact h
  obtain ⟨dC, dI, hKn⟩ := zz_known hts0
  obtain ⟨a0, hZ⟩ := zz_start (A := A) hts0 hgv (fun a h q => absurd (hA2 a q) (Nat.not_le.mpr h)) (hKn 9 _ rfl).2.1
  have hS : va_S A s.heap s.heap [] := va_S.rf
  have hK : va_K (dC, dI) vwCl [] s := ⟨hKn, fun k q h => by simp at h⟩
  have hP : va_P (dC, dI) vwCl [] s.heap := fun k q h => by simp at h
  have hD : va_D A [] := ⟨fun i j p q h => by simp at h, fun k q h => by simp at h⟩
  have hl := lv_entry ([.ref b]) (n := 10) (Nat.le_of_ble_eq_true rfl)
  rw [lg_entry_eq]
  generalize (lg_sl ([.ref b]) ++ List.replicate (10 - (lg_sl ([.ref b])).length) Slot.unset).toArray = ls at hl ⊢
  have hl : lv_has ls 10 [(0, .ref b)] := hl
  have hiX10 : ∀ w ∈ wsX100, w ∈ zs_law := by decide +kernel
  have hiX7 : ∀ w ∈ wsX70, w ∈ zs_law := by decide +kernel
  refine va_new (ci := 9) (fs := [.null, .null, .null, .null, .null, .null, .int 0, .int 0, .int 0, .int 0, .int 0]) (C := RX7) (T := TX7) (N := 11) hx hb hts hiX7 tyX7 tyX7_ok hown (hts (.classLink RL 8 RX7) (by decide +kernel)) (hts (.instantiable RX7 11) (by decide +kernel)) (hts (.initialized RX7) (by decide +kernel)) hK hP hD hS hA rfl (fun j hj => by rcases (show j = 0 ∨ j = 1 ∨ j = 2 ∨ j = 3 ∨ j = 4 ∨ j = 5 ∨ j = 6 ∨ j = 7 ∨ j = 8 ∨ j = 9 ∨ j = 10 by omega) with rfl | rfl | rfl | rfl | rfl | rfl | rfl | rfl | rfl | rfl | rfl <;> rfl) (Nat.le_of_ble_eq_true rfl) (Nat.le_of_ble_eq_true rfl) dL_law_0 (fun q_1 H hP hD hS => ?_)
  have hP : va_P (dC, dI) vwCl [(q_1, .inr (9, [.null, .null, .null, .null, .null, .null, .int 0, .int 0, .int 0, .int 0, .int 0]))] H := hP
  have hD : va_D A [(q_1, .inr (9, [.null, .null, .null, .null, .null, .null, .int 0, .int 0, .int 0, .int 0, .int 0]))] := hD
  refine W.widen (k := 1) (n := 11) (Nat.le_of_ble_eq_true rfl) (Nat.le_of_ble_eq_true rfl) ?_
  refine lv_dup hx hb dL_law_3 rfl ?_
  have hPc := hP.sub (ws' := [(q_1, .inr (9, [.null, .null, .null, .null, .null, .null, .int 0, .int 0, .int 0, .int 0, .int 0]))]) [0] rfl
  have hDc := hD.sub (ws' := [(q_1, .inr (9, [.null, .null, .null, .null, .null, .null, .int 0, .int 0, .int 0, .int 0, .int 0]))]) [0] (by decide) rfl
  have hKc := hK.sub (tys' := []) [] rfl
  have hFc := va_free (wc := [(q_1, .inr (9, [.null, .null, .null, .null, .null, .null, .int 0, .int 0, .int 0, .int 0, .int 0]))]) hD hS hA [0] rfl
  have hZc := ((hZ.kept hS.2.1).narrow hFc)
  refine va_callv (va_runI (As := []) (rest := [.ref q_1]) ⟨hx, hb, hml, hown, hts⟩ (c_X7_init l hnt dC dI a0 q_1 H.size ) (cwI 0 hts (goodIn_of _ (by decide +kernel)) rfl rfl rfl (hts (.initialized RX7) (by decide +kernel)) (hts (.methodLink RL 86 yX7_init) (by decide +kernel)) (hts (.instanceMethod yX7_init) (by decide +kernel)) rfl (by decide +kernel) ⟨Nat.le_of_ble_eq_true rfl, Nat.le_of_ble_eq_true rfl⟩) ⟨fun a U g mk q => by obtain ⟨q0, q1, qP, qK, qD, qZ⟩ := q; exact ⟨q0, q1, qP, va_K.moved (u := U) (U := U.calling g mk a) (Vm.Alike.refl U.vm) qK, qD, qZ.call⟩, fun U hU hW => ⟨rfl, by rw [hU], by rw [hU]; exact hPc, va_K.moved hW.alike hKc, hDc.weaken (fun _ _ _ _ => trivial), by rw [hU]; exact hZc.warm hW⟩⟩ rfl rfl hl.1 rfl (lv_room (Nat.le_of_ble_eq_true rfl)) dL_law_4 ⟨Nat.le_of_ble_eq_true rfl, Nat.le_of_ble_eq_true rfl⟩) hS (fun q _ h => hFc q h) hFc (fun u t H1 locs ht hvm hw hB hz1 hk1 hS => ?_)
  obtain ⟨qm_3, qt_4, qw_5, qc_6, qb_7, qg_8, cM_9, cT_10, hP1, hK1, hD1⟩ := hB
  rw [ht] at hP1
  have hK1 := va_K.moved hvm.symm hK1
  obtain ⟨hP, hD⟩ := va_join (wr := []) (w1 := [(q_1, .inr (9, [.ref qm_3, .ref qt_4, .ref qw_5, .ref qc_6, .ref qb_7, .ref qg_8, .int 0, .int 0, .int 0, .int 0, .int 0])), (qm_3, .inl (cM_9, 12, .inr (.inr (.inr (.inr (fun _ => none)))))), (qt_4, .inl (cT_10, 4, .inr (.inr (.inr (.inr (fun _ => none))))))]) hP hD [0] [] rfl rfl (by decide) (by decide) hk1 hFc hP1 hD1
  have hK := (hK.sub (tys' := []) [] rfl).app hK1
  generalize H1 = H at hP hS ⊢
  have hP : va_P (dC, dI) vwCl [(q_1, .inr (9, [.ref qm_3, .ref qt_4, .ref qw_5, .ref qc_6, .ref qb_7, .ref qg_8, .int 0, .int 0, .int 0, .int 0, .int 0])), (qm_3, .inl (cM_9, 12, .inr (.inr (.inr (.inr (fun _ => none)))))), (qt_4, .inl (cT_10, 4, .inr (.inr (.inr (.inr (fun _ => none))))))] H := hP
  have hD : va_D A [(q_1, .inr (9, [.ref qm_3, .ref qt_4, .ref qw_5, .ref qc_6, .ref qb_7, .ref qg_8, .int 0, .int 0, .int 0, .int 0, .int 0])), (qm_3, .inl (cM_9, 12, .inr (.inr (.inr (.inr (fun _ => none)))))), (qt_4, .inl (cT_10, 4, .inr (.inr (.inr (.inr (fun _ => none))))))] := hD
  have hK : va_K (dC, dI) vwCl [(cM_9, .object "Haltingale$Machine"), (cT_10, .object "Haltingale$Tag")] s := hK
  refine W.widen (k := 26) (n := 4309) (Nat.le_of_ble_eq_true rfl) (Nat.le_of_ble_eq_true rfl) ?_
  refine lv_astore_n (lv' := [(1, .ref q_1), (0, .ref b)]) hx hb dL_law_7 rfl hl (by decide) rfl (fun ls hl => ?_)
  refine va_new (ci := 12) (fs := [.int 0, .null, .null, .int 0, .int 0, .int 0, .long 0]) (C := RX10) (T := TX10) (N := 7) hx hb hts hiX10 tyX10 tyX10_ok hown (hts (.classLink RL 87 RX10) (by decide +kernel)) (hts (.instantiable RX10 7) (by decide +kernel)) (hts (.initialized RX10) (by decide +kernel)) hK hP hD hS hA rfl (fun j hj => by rcases (show j = 0 ∨ j = 1 ∨ j = 2 ∨ j = 3 ∨ j = 4 ∨ j = 5 ∨ j = 6 by omega) with rfl | rfl | rfl | rfl | rfl | rfl | rfl <;> rfl) (Nat.le_of_ble_eq_true rfl) (Nat.le_of_ble_eq_true rfl) dL_law_8 (fun q_11 H hP hD hS => ?_)
  have hP : va_P (dC, dI) vwCl [(q_1, .inr (9, [.ref qm_3, .ref qt_4, .ref qw_5, .ref qc_6, .ref qb_7, .ref qg_8, .int 0, .int 0, .int 0, .int 0, .int 0])), (qm_3, .inl (cM_9, 12, .inr (.inr (.inr (.inr (fun _ => none)))))), (qt_4, .inl (cT_10, 4, .inr (.inr (.inr (.inr (fun _ => none)))))), (q_11, .inr (12, [.int 0, .null, .null, .int 0, .int 0, .int 0, .long 0]))] H := hP
  have hD : va_D A [(q_1, .inr (9, [.ref qm_3, .ref qt_4, .ref qw_5, .ref qc_6, .ref qb_7, .ref qg_8, .int 0, .int 0, .int 0, .int 0, .int 0])), (qm_3, .inl (cM_9, 12, .inr (.inr (.inr (.inr (fun _ => none)))))), (qt_4, .inl (cT_10, 4, .inr (.inr (.inr (.inr (fun _ => none)))))), (q_11, .inr (12, [.int 0, .null, .null, .int 0, .int 0, .int 0, .long 0]))] := hD
  refine W.widen (k := 27) (n := 4316) (Nat.le_of_ble_eq_true rfl) (Nat.le_of_ble_eq_true rfl) ?_
  refine lv_dup hx hb dL_law_11 rfl ?_
  have hPc := hP.sub (ws' := [(q_11, .inr (12, [.int 0, .null, .null, .int 0, .int 0, .int 0, .long 0]))]) [3] rfl
  have hDc := hD.sub (ws' := [(q_11, .inr (12, [.int 0, .null, .null, .int 0, .int 0, .int 0, .long 0]))]) [3] (by decide) rfl
  have hKc := hK.sub (tys' := []) [] rfl
  have hFc := va_free (wc := [(q_11, .inr (12, [.int 0, .null, .null, .int 0, .int 0, .int 0, .long 0]))]) hD hS hA [3] rfl
  have hZc := ((hZ.kept hS.2.1).narrow hFc)
  refine va_callv (va_runI (As := []) (rest := [.ref q_11]) ⟨hx, hb, hml, hown, hts⟩ (c_X10_init l hnt dC dI a0 q_11 H.size ) (cwI 0 hts (goodIn_of _ (by decide +kernel)) rfl rfl rfl (hts (.initialized RX10) (by decide +kernel)) (hts (.methodLink RL 89 yX10_init) (by decide +kernel)) (hts (.instanceMethod yX10_init) (by decide +kernel)) rfl (by decide +kernel) ⟨Nat.le_of_ble_eq_true rfl, Nat.le_of_ble_eq_true rfl⟩) ⟨fun a U g mk q => by obtain ⟨q0, q1, qP, qK, qD, qZ⟩ := q; exact ⟨q0, q1, qP, va_K.moved (u := U) (U := U.calling g mk a) (Vm.Alike.refl U.vm) qK, qD, qZ.call⟩, fun U hU hW => ⟨rfl, by rw [hU], by rw [hU]; exact hPc, va_K.moved hW.alike hKc, hDc.weaken (fun _ _ _ _ => trivial), by rw [hU]; exact hZc.warm hW⟩⟩ rfl rfl hl.1 rfl (lv_room (Nat.le_of_ble_eq_true rfl)) dL_law_12 ⟨Nat.le_of_ble_eq_true rfl, Nat.le_of_ble_eq_true rfl⟩) hS (fun q _ h => hFc q h) hFc (fun u t H1 locs ht hvm hw hB hz1 hk1 hS => ?_)
  obtain ⟨l1_13, l2_14, hP1, hK1, hD1⟩ := hB
  rw [ht] at hP1
  have hK1 := va_K.moved hvm.symm hK1
  obtain ⟨hP, hD⟩ := va_join (wr := [(q_1, .inr (9, [.ref qm_3, .ref qt_4, .ref qw_5, .ref qc_6, .ref qb_7, .ref qg_8, .int 0, .int 0, .int 0, .int 0, .int 0])), (qm_3, .inl (cM_9, 12, .inr (.inr (.inr (.inr (fun _ => none)))))), (qt_4, .inl (cT_10, 4, .inr (.inr (.inr (.inr (fun _ => none))))))]) (w1 := [(q_11, .inr (12, [.int 0, .ref l1_13, .ref l2_14, .int 0, .int 0, .int 0, .long 0])), (l1_13, .inr (1, [.int 0, .ref a0, .int 0])), (l2_14, .inr (1, [.int 0, .ref a0, .int 0]))]) hP hD [3] [0, 1, 2] rfl rfl (by decide) (by decide) hk1 hFc hP1 hD1
  have hK := (hK.sub (tys' := [(cM_9, .object "Haltingale$Machine"), (cT_10, .object "Haltingale$Tag")]) [0, 1] rfl).app hK1
  generalize H1 = H at hP hS ⊢
  have hP : va_P (dC, dI) vwCl [(q_1, .inr (9, [.ref qm_3, .ref qt_4, .ref qw_5, .ref qc_6, .ref qb_7, .ref qg_8, .int 0, .int 0, .int 0, .int 0, .int 0])), (qm_3, .inl (cM_9, 12, .inr (.inr (.inr (.inr (fun _ => none)))))), (qt_4, .inl (cT_10, 4, .inr (.inr (.inr (.inr (fun _ => none)))))), (q_11, .inr (12, [.int 0, .ref l1_13, .ref l2_14, .int 0, .int 0, .int 0, .long 0])), (l1_13, .inr (1, [.int 0, .ref a0, .int 0])), (l2_14, .inr (1, [.int 0, .ref a0, .int 0]))] H := hP
  have hD : va_D A [(q_1, .inr (9, [.ref qm_3, .ref qt_4, .ref qw_5, .ref qc_6, .ref qb_7, .ref qg_8, .int 0, .int 0, .int 0, .int 0, .int 0])), (qm_3, .inl (cM_9, 12, .inr (.inr (.inr (.inr (fun _ => none)))))), (qt_4, .inl (cT_10, 4, .inr (.inr (.inr (.inr (fun _ => none)))))), (q_11, .inr (12, [.int 0, .ref l1_13, .ref l2_14, .int 0, .int 0, .int 0, .long 0])), (l1_13, .inr (1, [.int 0, .ref a0, .int 0])), (l2_14, .inr (1, [.int 0, .ref a0, .int 0]))] := hD
  have hK : va_K (dC, dI) vwCl [(cM_9, .object "Haltingale$Machine"), (cT_10, .object "Haltingale$Tag")] s := hK
  refine W.widen (k := 29) (n := 4322) (Nat.le_of_ble_eq_true rfl) (Nat.le_of_ble_eq_true rfl) ?_
  refine lv_astore_n (lv' := [(2, .ref q_11), (1, .ref q_1), (0, .ref b)]) hx hb dL_law_15 rfl hl (by decide) rfl (fun ls hl => ?_)
  refine lv_iconst (v := 1) hx hb dL_law_16 (by decide) ?_
  refine va_newa (atype := .long) (ty := .long) (N' := 1) (a0 := (1, .inr (.inl (fun _ => 0)))) hx hb (hts (.arrayClass .long) (by decide +kernel)) rfl hK hP hD hS hA (fun _ => rfl) (by decide) (by decide) (Nat.le_of_ble_eq_true rfl) (Nat.le_of_ble_eq_true rfl) (Nat.le_of_ble_eq_true rfl) dL_law_17 (fun q_15 cy_16 H hK hP hD hS => ?_)
  have hK : va_K (dC, dI) vwCl [(cM_9, .object "Haltingale$Machine"), (cT_10, .object "Haltingale$Tag"), (cy_16, .long)] s := hK
  have hP : va_P (dC, dI) vwCl [(q_1, .inr (9, [.ref qm_3, .ref qt_4, .ref qw_5, .ref qc_6, .ref qb_7, .ref qg_8, .int 0, .int 0, .int 0, .int 0, .int 0])), (qm_3, .inl (cM_9, 12, .inr (.inr (.inr (.inr (fun _ => none)))))), (qt_4, .inl (cT_10, 4, .inr (.inr (.inr (.inr (fun _ => none)))))), (q_11, .inr (12, [.int 0, .ref l1_13, .ref l2_14, .int 0, .int 0, .int 0, .long 0])), (l1_13, .inr (1, [.int 0, .ref a0, .int 0])), (l2_14, .inr (1, [.int 0, .ref a0, .int 0])), (q_15, .inl (cy_16, 1, .inr (.inl (fun _ => 0))))] H := hP
  have hD : va_D A [(q_1, .inr (9, [.ref qm_3, .ref qt_4, .ref qw_5, .ref qc_6, .ref qb_7, .ref qg_8, .int 0, .int 0, .int 0, .int 0, .int 0])), (qm_3, .inl (cM_9, 12, .inr (.inr (.inr (.inr (fun _ => none)))))), (qt_4, .inl (cT_10, 4, .inr (.inr (.inr (.inr (fun _ => none)))))), (q_11, .inr (12, [.int 0, .ref l1_13, .ref l2_14, .int 0, .int 0, .int 0, .long 0])), (l1_13, .inr (1, [.int 0, .ref a0, .int 0])), (l2_14, .inr (1, [.int 0, .ref a0, .int 0])), (q_15, .inl (cy_16, 1, .inr (.inl (fun _ => 0))))] := hD
  refine W.widen (k := 30) (n := 4323) (Nat.le_of_ble_eq_true rfl) (Nat.le_of_ble_eq_true rfl) ?_
  refine lv_astore_n (lv' := [(3, .ref q_15), (2, .ref q_11), (1, .ref q_1), (0, .ref b)]) hx hb dL_law_19 rfl hl (by decide) rfl (fun ls hl => ?_)
  refine lv_iconst (v := 1) hx hb dL_law_20 (by decide) ?_
  refine va_newa (atype := .double) (ty := .double) (N' := 1) (a0 := (1, .inr (.inr (.inr (.inl (fun _ => 0)))))) hx hb (hts (.arrayClass .double) (by decide +kernel)) rfl hK hP hD hS hA (fun _ => rfl) (by decide) (by decide) (Nat.le_of_ble_eq_true rfl) (Nat.le_of_ble_eq_true rfl) (Nat.le_of_ble_eq_true rfl) dL_law_21 (fun q_17 cy_18 H hK hP hD hS => ?_)
  have hK : va_K (dC, dI) vwCl [(cM_9, .object "Haltingale$Machine"), (cT_10, .object "Haltingale$Tag"), (cy_16, .long), (cy_18, .double)] s := hK
  have hP : va_P (dC, dI) vwCl [(q_1, .inr (9, [.ref qm_3, .ref qt_4, .ref qw_5, .ref qc_6, .ref qb_7, .ref qg_8, .int 0, .int 0, .int 0, .int 0, .int 0])), (qm_3, .inl (cM_9, 12, .inr (.inr (.inr (.inr (fun _ => none)))))), (qt_4, .inl (cT_10, 4, .inr (.inr (.inr (.inr (fun _ => none)))))), (q_11, .inr (12, [.int 0, .ref l1_13, .ref l2_14, .int 0, .int 0, .int 0, .long 0])), (l1_13, .inr (1, [.int 0, .ref a0, .int 0])), (l2_14, .inr (1, [.int 0, .ref a0, .int 0])), (q_15, .inl (cy_16, 1, .inr (.inl (fun _ => 0)))), (q_17, .inl (cy_18, 1, .inr (.inr (.inr (.inl (fun _ => 0))))))] H := hP
  have hD : va_D A [(q_1, .inr (9, [.ref qm_3, .ref qt_4, .ref qw_5, .ref qc_6, .ref qb_7, .ref qg_8, .int 0, .int 0, .int 0, .int 0, .int 0])), (qm_3, .inl (cM_9, 12, .inr (.inr (.inr (.inr (fun _ => none)))))), (qt_4, .inl (cT_10, 4, .inr (.inr (.inr (.inr (fun _ => none)))))), (q_11, .inr (12, [.int 0, .ref l1_13, .ref l2_14, .int 0, .int 0, .int 0, .long 0])), (l1_13, .inr (1, [.int 0, .ref a0, .int 0])), (l2_14, .inr (1, [.int 0, .ref a0, .int 0])), (q_15, .inl (cy_16, 1, .inr (.inl (fun _ => 0)))), (q_17, .inl (cy_18, 1, .inr (.inr (.inr (.inl (fun _ => 0))))))] := hD
  refine W.widen (k := 31) (n := 4324) (Nat.le_of_ble_eq_true rfl) (Nat.le_of_ble_eq_true rfl) ?_
  refine lv_astore (lv' := [(4, .ref q_17), (3, .ref q_15), (2, .ref q_11), (1, .ref q_1), (0, .ref b)]) hx hb dL_law_23 hl (by decide) rfl (fun ls hl => ?_)
  refine lv_iconst (v := 0) hx hb dL_law_25 (by decide) ?_
  refine lv_istore (lv' := [(5, .int 0), (4, .ref q_17), (3, .ref q_15), (2, .ref q_11), (1, .ref q_1), (0, .ref b)]) hx hb dL_law_26 hl (by decide) rfl (fun ls hl => ?_)
  exact law_head hnt hL C0 hA hA2 hZ (hK.sub (tys' := [(cM_9, .object "Haltingale$Machine"), (cT_10, .object "Haltingale$Tag"), (cy_16, .long), (cy_18, .double)]) [0, 1, 2, 3] rfl) (hP.sub (ws' := [(q_1, .inr (9, [.ref qm_3, .ref qt_4, .ref qw_5, .ref qc_6, .ref qb_7, .ref qg_8, .int 0, .int 0, .int 0, .int 0, .int 0])), (qm_3, .inl (cM_9, 12, .inr (.inr (.inr (.inr (fun _ => none)))))), (qt_4, .inl (cT_10, 4, .inr (.inr (.inr (.inr (fun _ => none)))))), (q_11, .inr (12, [.int 0, .ref l1_13, .ref l2_14, .int 0, .int 0, .int 0, .long 0])), (l1_13, .inr (1, [.int 0, .ref a0, .int 0])), (l2_14, .inr (1, [.int 0, .ref a0, .int 0])), (q_15, .inl (cy_16, 1, .inr (.inl (fun _ => 0)))), (q_17, .inl (cy_18, 1, .inr (.inr (.inr (.inl (fun _ => 0))))))]) [0, 1, 2, 3, 4, 5, 6, 7] rfl) (hD.sub (ws' := [(q_1, .inr (9, [.ref qm_3, .ref qt_4, .ref qw_5, .ref qc_6, .ref qb_7, .ref qg_8, .int 0, .int 0, .int 0, .int 0, .int 0])), (qm_3, .inl (cM_9, 12, .inr (.inr (.inr (.inr (fun _ => none)))))), (qt_4, .inl (cT_10, 4, .inr (.inr (.inr (.inr (fun _ => none)))))), (q_11, .inr (12, [.int 0, .ref l1_13, .ref l2_14, .int 0, .int 0, .int 0, .long 0])), (l1_13, .inr (1, [.int 0, .ref a0, .int 0])), (l2_14, .inr (1, [.int 0, .ref a0, .int 0])), (q_15, .inl (cy_16, 1, .inr (.inl (fun _ => 0)))), (q_17, .inl (cy_18, 1, .inr (.inr (.inr (.inl (fun _ => 0))))))]) [0, 1, 2, 3, 4, 5, 6, 7] (by decide) rfl) hS (lv_sub hl [0, 1, 2, 3, 4, 5] rfl)
