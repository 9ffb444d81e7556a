/-! the model: limit, way and the orders -/
theorem zp_drop_len {S : zp_L} (hJ : zp_J S) (h0 : 0 < S.1.length) : (zp_drop S).1.length = S.1.length - 1 := by
  unfold zp_drop
  rw [← zm_take_eq hJ]
  exact List.length_eraseIdx_of_lt (zl_find_mem.mpr (zp_first_mem hJ h0))
theorem zp_take_len {S : zp_L} (hJ : zp_J S) {key : Int32} (h0 : key ∈ S.1.map (·.1)) : (zp_take S key).1.length = S.1.length - 1 := by
  rw [← zm_take_eq hJ]
  exact List.length_eraseIdx_of_lt (zl_find_mem.mpr h0)
theorem zm_ixle {n : Nat} (hn : n ≤ 12) (q : Int32) : (0 ≤ q ∧ q ≤ nI n - 1) ↔ (zf_ix q n).isSome = true := by
  have h1 : (nI n - 1).toInt = (n : Int) - 1 := pk_sub_toInt (a := n) (b := 1) (by omega) (by omega)
  rw [Int32.le_iff_toInt_le, Int32.le_iff_toInt_le, h1]
  have h0 : (0 : Int32).toInt = 0 := by decide
  rw [h0]
  unfold zf_ix
  split
  · rename_i h
    exact ⟨fun _ => rfl, fun _ => ⟨h.1, by omega⟩⟩
  · rename_i h
    exact ⟨fun q => absurd ⟨q.1, by omega⟩ h, fun q => by cases q⟩
set_option maxHeartbeats 8000000 in
theorem zm_limit {l : Launch} (hl : l.stackTraces = false) (D : va_G) (dA : Nat → ClassId) (d : zm_D) (U : zm_U) (t : Int32) (hR : zm_R U t d) (hI : zm_I U) (most : Int32) :
    zw_Sp l D dA yX5_limit wsX5_limit 5 0 0 [.ref 0, .int most] (zm_W 0 d)
    (fun r w => ∃ d', ((¬ (1 ≤ most.toInt ∧ most.toInt ≤ 12) ∧ r = some (.int 0) ∧ zm_R U 1 d') ∨ (∃ mm : Nat, 1 ≤ mm ∧ mm ≤ 12 ∧ most = nI mm ∧ r = some (.int (nI (U.1.1.length - mm))) ∧ zm_R (zm_set1 (zm_chg U) (zp_lim U.1 mm)) 0 d')) ∧ w = zm_W 0 d') (fun _ _ => False) := by
  refine zw_start hl (by decide) rfl rfl (Nat.le_of_ble_eq_true rfl) ?_
  intro pr e s m args below meth c ad A hA B
  obtain ⟨a, v⟩ := d
  have hJ := hI.1.1
  have h12 := hJ.l12
  refine zs_aload_n B dX5_limit_0 (i := 0) rfl rfl ?_
  refine zs_iload_n B dX5_limit_1 (i := 1) rfl rfl ?_
  refine zs_iconst (v := 1) B dX5_limit_2 (by decide) ?_
  refine zs_bipush (v := 12) B dX5_limit_3 (by decide) ?_
  refine zs_callS (n := 3) [] B (zm_in hl D dA most 1 12) gX5_limit_X5_in rfl ⟨by decide, by decide, by decide +kernel⟩ rfl (by rfl) rfl (by rfl) ⟨(by exact Nat.le_of_ble_eq_true rfl), (by exact Nat.le_of_ble_eq_true rfl)⟩ (by exact Nat.le_of_ble_eq_true rfl) ⟨(by exact Nat.le_of_ble_eq_true rfl), (by exact Nat.le_of_ble_eq_true rfl)⟩ dX5_limit_5 (by rintro v w ⟨rfl, rfl⟩; rfl) (fun _ _ h => h.elim) (fun _ _ h => h.elim) ?_
  rintro r w ⟨rfl, rfl⟩
  refine zs_eq (wl' := zm_W 0 (a, v)) (st' := [.int (zf_b (decide (1 ≤ most ∧ most ≤ 12))), .ref 0]) rfl rfl rfl rfl ?_
  refine zs_iconst (v := 1) B dX5_limit_8 (by decide) ?_
  refine zs_callV0 (n := 2) B (zm_no hl D dA a v (decide (1 ≤ most ∧ most ≤ 12)) 1) gX5_limit_X5_no rfl ⟨rfl, by decide, by decide, by decide +kernel⟩ rfl rfl rfl (by rfl) ⟨(by exact Nat.le_of_ble_eq_true rfl), (by exact Nat.le_of_ble_eq_true rfl)⟩ (by exact Nat.le_of_ble_eq_true rfl) ⟨(by exact Nat.le_of_ble_eq_true rfl), (by exact Nat.le_of_ble_eq_true rfl)⟩ dX5_limit_9 (by rintro v w ⟨rfl, rfl⟩; rfl) (fun _ _ h => h.elim) (fun _ _ h => h.elim) ?_
  rintro r w ⟨rfl, rfl⟩
  by_cases hin : 1 ≤ most ∧ most ≤ 12
  · rw [decide_eq_true hin]
    have hin2 := (zm_i12 most).mp hin
    obtain ⟨mm, hmm, rfl⟩ := nI_of (x := most) (by rw [Int32.lt_iff_toInt_lt]; have h0 : (0 : Int32).toInt = 0 := by decide
                                                   omega)
    rw [nI_toInt hmm] at hin2
    refine zs_if_eq (tgt := 17) B dX5_limit_12 (by decide) (fun _ => ?_) (fun h => absurd rfl h)
    refine zs_aload_n B dX5_limit_17 (i := 0) rfl rfl ?_
    refine zs_callV0 (n := 0) B (zm_changes hl D dA (a, zm_th v 0) U 0 (hR.th 0) hI) gX5_limit_X5_changes rfl ⟨rfl, by decide, by decide, by decide +kernel⟩ rfl rfl rfl (by rfl) ⟨(by exact Nat.le_of_ble_eq_true rfl), (by exact Nat.le_of_ble_eq_true rfl)⟩ (by exact Nat.le_of_ble_eq_true rfl) ⟨(by exact Nat.le_of_ble_eq_true rfl), (by exact Nat.le_of_ble_eq_true rfl)⟩ dX5_limit_18 (by rintro v w ⟨rfl, x9, h9, rfl⟩; rfl) (fun _ _ h => h.elim) (fun _ _ h => h.elim) ?_
    rintro r w ⟨rfl, ⟨a1, v1⟩, hR1, rfl⟩
    refine zs_aload_n B dX5_limit_21 (i := 0) rfl rfl ?_
    refine zs_iload_n B dX5_limit_22 (i := 1) rfl rfl ?_
    refine zs_put B (wX5_limit_19 rfl rfl) rfl (Nat.le_of_ble_eq_true rfl) dX5_limit_23 ?_
    refine zs_iconst (v := 0) B dX5_limit_26 (by decide) ?_
    refine zs_istore_n B dX5_limit_27 (i := 2) rfl (by decide) rfl ?_
    obtain ⟨S, hS⟩ : ∃ S, S = (U.1.1, U.1.2.1, nI mm, U.1.2.2.2) := ⟨_, rfl⟩
    obtain ⟨d1, hd1⟩ : ∃ d1 : zm_D, d1 = (a1, (v1.1, nI mm, v1.2.2)) := ⟨_, rfl⟩
    have hRS : zm_R (S, (zm_chg U).2) 0 d1 := by
      rw [hS, hd1]
      obtain ⟨⟨b1, b2, b3, b4, b5, b6⟩, hb⟩ := hR1
      exact ⟨⟨b1, b2, b3, b4, rfl, b6⟩, hb⟩
    have hJS : zp_J S := by
      rw [hS]
      obtain ⟨q1, q2, q3, q4, q5, q6, q7, q8⟩ := hJ
      exact ⟨by rw [zp_mm_nI _ _ _ (by omega)], by rw [zp_mm_nI _ _ _ (by omega)]; omega, by rw [zp_mm_nI _ _ _ (by omega)]; omega, q4, q5, q6, q7, q8⟩
    have hmS : S.2.2.1 = nI mm := by rw [hS]
    obtain ⟨k, hk⟩ : ∃ k, k = S.1.length - mm := ⟨_, rfl⟩
    have hfin : zp_drops S k = zp_lim U.1 mm := by rw [hk, hS]; rfl
    have hcnt : zz 0 + k = U.1.1.length - mm := by rw [hk, hS]; exact Nat.zero_add _
    refine zs_eq (wl' := zm_W 0 d1) (lv' := [some (.ref 0), some (.int (nI mm)), some (.int (nI (zz 0)))]) (by rw [hd1]; rfl) rfl rfl rfl ?_
    clear hS hd1 hR1
    generalize zz 0 = j at hcnt ⊢
    induction k generalizing j S d1 with
    | zero =>
      obtain ⟨a2, v2⟩ := d1
      have hP := hRS.1
      refine zs_aload_n B dX5_limit_28 (i := 0) rfl rfl ?_
      refine zs_get B fX5_limit_57 rfl rfl dX5_limit_29 ?_
      refine zs_aload_n B dX5_limit_32 (i := 0) rfl rfl ?_
      refine zs_get B fX5_limit_19 rfl rfl dX5_limit_33 ?_
      refine zs_eq (wl' := zm_W 0 (a2, v2)) (st' := [.int (nI mm), .int (nI S.1.length)]) rfl rfl (by rw [← hmS, ← hP.1, ← hP.2.2.2.2.1]; rfl) rfl ?_
      refine zs_icmp_le (tgt := 59) B dX5_limit_36 (by decide) (fun h => ?_) (fun h => absurd (nI_le (show S.1.length ≤ mm by omega) (by omega)) h)
      refine zs_iload_n B dX5_limit_59 (i := 2) rfl rfl ?_
      refine zs_zret hA B rfl rfl (by decide) (by decide) ⟨(a2, v2), Or.inr ⟨mm, by omega, by omega, rfl, ?_, ?_⟩, rfl⟩ dX5_limit_60
      · rw [show j = U.1.1.length - mm by omega]
      · show zm_R (zp_lim U.1 mm, (zm_chg U).2) 0 _
        rw [← hfin]
        exact hRS
    | succ k ih =>
      obtain ⟨a2, v2⟩ := d1
      have hP := hRS.1
      have hs12 := hJS.l12
      refine zs_aload_n B dX5_limit_28 (i := 0) rfl rfl ?_
      refine zs_get B fX5_limit_57 rfl rfl dX5_limit_29 ?_
      refine zs_aload_n B dX5_limit_32 (i := 0) rfl rfl ?_
      refine zs_get B fX5_limit_19 rfl rfl dX5_limit_33 ?_
      refine zs_eq (wl' := zm_W 0 (a2, v2)) (st' := [.int (nI mm), .int (nI S.1.length)]) rfl rfl (by rw [← hmS, ← hP.1, ← hP.2.2.2.2.1]; rfl) rfl ?_
      refine zs_icmp_le (tgt := 59) B dX5_limit_36 (by decide) (fun h => absurd ((nI_leI (by omega) (by omega)).mp h) (by omega)) (fun h => ?_)
      have h0 : 0 < S.1.length := by omega
      obtain ⟨q0, hq0⟩ : ∃ q0, (zp_row S S.2.2.2)[0]? = some q0 := ⟨_, List.getElem?_eq_getElem (by rw [zp_row_len hJS]; exact h0)⟩
      refine zs_aload_n B dX5_limit_39 (i := 0) rfl rfl ?_
      refine zs_aload_n B dX5_limit_40 (i := 0) rfl rfl ?_
      refine zs_aload_n B dX5_limit_41 (i := 0) rfl rfl ?_
      refine zs_get B fX5_limit_23 rfl rfl dX5_limit_42 ?_
      refine zs_callV0 (n := 1) B (zm_rowM hl D dA (a2, v2) v2.2.2.1) gX5_limit_X5_row rfl ⟨rfl, by decide, by decide, by decide +kernel⟩ rfl rfl rfl (by rfl) ⟨(by exact Nat.le_of_ble_eq_true rfl), (by exact Nat.le_of_ble_eq_true rfl)⟩ (by exact Nat.le_of_ble_eq_true rfl) ⟨(by exact Nat.le_of_ble_eq_true rfl), (by exact Nat.le_of_ble_eq_true rfl)⟩ dX5_limit_45 (by rintro v w ⟨rfl, rfl⟩; rfl) (fun _ _ h => h.elim) (fun _ _ h => h.elim) ?_
      rintro r w ⟨rfl, rfl⟩
      rw [hP.2.2.2.2.2]
      refine zs_iconst (v := 0) B dX5_limit_48 (by decide) ?_
      refine zs_mget (zm_ro S.2.2.2) 0 (zm_roA _) (by decide) rfl B dX5_limit_49 ?_
      rw [show a2 (zm_ro S.2.2.2) 0 = zp_first S from (zm_rowR hP hJS.2.2.2.1 0 q0 hq0).trans (zm_first hJS h0 hq0).symm]
      refine zs_callV0 (n := 1) B (zm_outJ hl D dA (a2, v2) (S, (zm_chg U).2) 0 hRS hJS (zp_first S) (zp_first_mem hJS h0)) gX5_limit_X5_out rfl ⟨rfl, by decide, by decide, by decide +kernel⟩ rfl rfl rfl (by rfl) ⟨(by exact Nat.le_of_ble_eq_true rfl), (by exact Nat.le_of_ble_eq_true rfl)⟩ (by exact Nat.le_of_ble_eq_true rfl) ⟨(by exact Nat.le_of_ble_eq_true rfl), (by exact Nat.le_of_ble_eq_true rfl)⟩ dX5_limit_50 (by rintro v w ⟨rfl, x9, h9, rfl⟩; rfl) (fun _ _ h => h.elim) (fun _ _ h => h.elim) ?_
      rintro r w ⟨rfl, d3, hR3, rfl⟩
      refine zs_iinc B dX5_limit_53 (i := 2) rfl (nI_1 j) (by decide) rfl ?_
      refine zs_goto (tgt := 28) B dX5_limit_56 (by decide) ?_
      have hl3 := zp_drop_len hJS h0
      exact ih (zp_drop S) d3 hR3 hJS.drop hmS (by rw [hl3]; omega) hfin (j + 1) (by omega)
  · rw [decide_eq_false hin]
    refine zs_if_eq (tgt := 17) B dX5_limit_12 (by decide) (fun h => absurd h (by decide)) (fun _ => ?_)
    refine zs_iconst (v := 0) B dX5_limit_15 (by decide) ?_
    exact zs_zret hA B rfl rfl (by decide) (by decide) ⟨(a, zm_th v 1), Or.inl ⟨fun q => hin ((zm_i12 most).mpr q), rfl, hR.th 1⟩, rfl⟩ dX5_limit_16
set_option maxHeartbeats 8000000 in
theorem zm_way {l : Launch} (hl : l.stackTraces = false) (D : va_G) (dA : Nat → ClassId) (d : zm_D) (U : zm_U) (t : Int32) (hR : zm_R U t d) (hI : zm_I U) (o : Int32) :
    zw_Sp l D dA yX5_way wsX5_way 5 0 0 [.ref 0, .int o] (zm_W 0 d)
    (fun r w => ∃ d', ((¬ (o = 99 ∨ o = 97) ∧ r = some (.int 0) ∧ zm_R U 1 d') ∨ ((o = 99 ∨ o = 97) ∧ r = some (.int U.1.2.2.2) ∧ zm_R (zm_set1 (zm_chg U) (U.1.1, U.1.2.1, U.1.2.2.1, o)) 0 d')) ∧ w = zm_W 0 d') (fun _ _ => False) := by
  refine zw_start hl (by decide) rfl rfl (Nat.le_of_ble_eq_true rfl) ?_
  intro pr e s m args below meth c ad A hA B
  obtain ⟨a, v⟩ := d
  refine zs_aload_n B dX5_way_0 (i := 0) rfl rfl ?_
  refine zs_iload_n B dX5_way_1 (i := 1) rfl rfl ?_
  refine zs_callS (n := 1) [] B (zm_isOrder hl D dA o) gX5_way_X5_isOrder rfl ⟨by decide, by decide, by decide +kernel⟩ rfl (by rfl) rfl (by rfl) ⟨(by exact Nat.le_of_ble_eq_true rfl), (by exact Nat.le_of_ble_eq_true rfl)⟩ (by exact Nat.le_of_ble_eq_true rfl) ⟨(by exact Nat.le_of_ble_eq_true rfl), (by exact Nat.le_of_ble_eq_true rfl)⟩ dX5_way_2 (by rintro v w ⟨rfl, rfl⟩; rfl) (fun _ _ h => h.elim) (fun _ _ h => h.elim) ?_
  rintro r w ⟨rfl, rfl⟩
  refine zs_eq (wl' := zm_W 0 (a, v)) (st' := [.int (zf_b (decide (o = 99 ∨ o = 97))), .ref 0]) rfl rfl rfl rfl ?_
  refine zs_iconst (v := 1) B dX5_way_5 (by decide) ?_
  refine zs_callV0 (n := 2) B (zm_no hl D dA a v (decide (o = 99 ∨ o = 97)) 1) gX5_way_X5_no rfl ⟨rfl, by decide, by decide, by decide +kernel⟩ rfl rfl rfl (by rfl) ⟨(by exact Nat.le_of_ble_eq_true rfl), (by exact Nat.le_of_ble_eq_true rfl)⟩ (by exact Nat.le_of_ble_eq_true rfl) ⟨(by exact Nat.le_of_ble_eq_true rfl), (by exact Nat.le_of_ble_eq_true rfl)⟩ dX5_way_6 (by rintro v w ⟨rfl, rfl⟩; rfl) (fun _ _ h => h.elim) (fun _ _ h => h.elim) ?_
  rintro r w ⟨rfl, rfl⟩
  by_cases hin : o = 99 ∨ o = 97
  · rw [decide_eq_true hin]
    refine zs_if_eq (tgt := 14) B dX5_way_9 (by decide) (fun _ => ?_) (fun h => absurd rfl h)
    refine zs_aload_n B dX5_way_14 (i := 0) rfl rfl ?_
    refine zs_callV0 (n := 0) B (zm_changes hl D dA (a, zm_th v 0) U 0 (hR.th 0) hI) gX5_way_X5_changes rfl ⟨rfl, by decide, by decide, by decide +kernel⟩ rfl rfl rfl (by rfl) ⟨(by exact Nat.le_of_ble_eq_true rfl), (by exact Nat.le_of_ble_eq_true rfl)⟩ (by exact Nat.le_of_ble_eq_true rfl) ⟨(by exact Nat.le_of_ble_eq_true rfl), (by exact Nat.le_of_ble_eq_true rfl)⟩ dX5_way_15 (by rintro v w ⟨rfl, x9, h9, rfl⟩; rfl) (fun _ _ h => h.elim) (fun _ _ h => h.elim) ?_
    rintro r w ⟨rfl, ⟨a1, v1⟩, hR1, rfl⟩
    have hw : v1.2.2.1 = U.1.2.2.2 := hR1.1.2.2.2.2.2
    have hwo := (zb_o_nar hI.1.1.2.2.2.1).1
    refine zs_aload_n B dX5_way_18 (i := 0) rfl rfl ?_
    refine zs_get B fX5_way_23 rfl rfl dX5_way_19 ?_
    refine zs_istore_n B dX5_way_22 (i := 2) rfl (by decide) rfl ?_
    refine zs_aload_n B dX5_way_23 (i := 0) rfl rfl ?_
    refine zs_iload_n B dX5_way_24 (i := 1) rfl rfl ?_
    refine zs_put B (wX5_way_23 (zb_o_nar hin).1 (zb_o_nar hin).2) rfl (Nat.le_of_ble_eq_true rfl) dX5_way_25 ?_
    refine zs_iload_n B dX5_way_28 (i := 2) rfl rfl ?_
    refine zs_zret hA B rfl (by rw [hw]; exact hwo) (by decide) (by decide) ⟨(a1, (v1.1, v1.2.1, o, v1.2.2.2)), Or.inr ⟨hin, by rw [hw], ?_⟩, rfl⟩ dX5_way_29
    obtain ⟨⟨b1, b2, b3, b4, b5, b6⟩, hb⟩ := hR1
    exact ⟨⟨b1, b2, b3, b4, b5, rfl⟩, hb⟩
  · rw [decide_eq_false hin]
    refine zs_if_eq (tgt := 14) B dX5_way_9 (by decide) (fun h => absurd h (by decide)) (fun _ => ?_)
    refine zs_iconst (v := 0) B dX5_way_12 (by decide) ?_
    exact zs_zret hA B rfl rfl (by decide) (by decide) ⟨(a, zm_th v 1), Or.inl ⟨hin, rfl, hR.th 1⟩, rfl⟩ dX5_way_13
theorem zm_R.th2 {U : zm_U} {t : Int32} {a : zm_A} {v : zm_V} (h : zm_R U t (a, v)) (x y : Int32) : zm_R U y (a, zm_th (zm_th v x) y) := ⟨h.1, h.2.1, h.2.2.1, rfl⟩
set_option maxHeartbeats 8000000 in
theorem zm_keyAt {l : Launch} (hl : l.stackTraces = false) (D : va_G) (dA : Nat → ClassId) (d : zm_D) (U : zm_U) (t : Int32) (hR : zm_R U t d) (hI : zm_I U) (o q : Int32) :
    zw_Sp l D dA yX5_keyAt wsX5_keyAt 5 0 0 [.ref 0, .int o, .int q] (zm_W 0 d)
    (fun r w => ∃ d', ((¬ (o = 99 ∨ o = 97) ∧ r = some (.int 0) ∧ zm_R U 1 d') ∨ ((o = 99 ∨ o = 97) ∧ ¬ (zf_ix q U.1.1.length).isSome = true ∧ r = some (.int 0) ∧ zm_R U 2 d') ∨ ((o = 99 ∨ o = 97) ∧ (zf_ix q U.1.1.length).isSome = true ∧ r = some (.int (zl_key (zp_row U.1 o) (zf_ix q (zp_row U.1 o).length))) ∧ zm_R U 0 d')) ∧ w = zm_W 0 d') (fun _ _ => False) := by
  refine zw_start hl (by decide) rfl rfl (Nat.le_of_ble_eq_true rfl) ?_
  intro pr e s m args below meth c ad A hA B
  obtain ⟨a, v⟩ := d
  have hJ := hI.1.1
  have h12 := hJ.l12
  refine zs_aload_n B dX5_keyAt_0 (i := 0) rfl rfl ?_
  refine zs_iload_n B dX5_keyAt_1 (i := 1) rfl rfl ?_
  refine zs_callS (n := 1) [] B (zm_isOrder hl D dA o) gX5_keyAt_X5_isOrder rfl ⟨by decide, by decide, by decide +kernel⟩ rfl (by rfl) rfl (by rfl) ⟨(by exact Nat.le_of_ble_eq_true rfl), (by exact Nat.le_of_ble_eq_true rfl)⟩ (by exact Nat.le_of_ble_eq_true rfl) ⟨(by exact Nat.le_of_ble_eq_true rfl), (by exact Nat.le_of_ble_eq_true rfl)⟩ dX5_keyAt_2 (by rintro v w ⟨rfl, rfl⟩; rfl) (fun _ _ h => h.elim) (fun _ _ h => h.elim) ?_
  rintro r w ⟨rfl, rfl⟩
  refine zs_eq (wl' := zm_W 0 (a, v)) (st' := [.int (zf_b (decide (o = 99 ∨ o = 97))), .ref 0]) rfl rfl rfl rfl ?_
  refine zs_iconst (v := 1) B dX5_keyAt_5 (by decide) ?_
  refine zs_callV0 (n := 2) B (zm_no hl D dA a v (decide (o = 99 ∨ o = 97)) 1) gX5_keyAt_X5_no rfl ⟨rfl, by decide, by decide, by decide +kernel⟩ rfl rfl rfl (by rfl) ⟨(by exact Nat.le_of_ble_eq_true rfl), (by exact Nat.le_of_ble_eq_true rfl)⟩ (by exact Nat.le_of_ble_eq_true rfl) ⟨(by exact Nat.le_of_ble_eq_true rfl), (by exact Nat.le_of_ble_eq_true rfl)⟩ dX5_keyAt_6 (by rintro v w ⟨rfl, rfl⟩; rfl) (fun _ _ h => h.elim) (fun _ _ h => h.elim) ?_
  rintro r w ⟨rfl, rfl⟩
  by_cases hin : o = 99 ∨ o = 97
  · rw [decide_eq_true hin]
    refine zs_if_ne (tgt := 31) B dX5_keyAt_9 (by decide) (fun h => absurd rfl h) (fun _ => ?_)
    have hv : v.1 = nI U.1.1.length := hR.1.1
    refine zs_aload_n B dX5_keyAt_12 (i := 0) rfl rfl ?_
    refine zs_iload_n B dX5_keyAt_13 (i := 2) rfl rfl ?_
    refine zs_iconst (v := 0) B dX5_keyAt_14 (by decide) ?_
    refine zs_aload_n B dX5_keyAt_15 (i := 0) rfl rfl ?_
    refine zs_get B fX5_keyAt_57 rfl rfl dX5_keyAt_16 ?_
    refine zs_eq (wl' := zm_W 0 (a, zm_th v 0)) (st' := [.int (nI U.1.1.length), .int 0, .int q, .ref 0]) rfl rfl (by rw [← hv]; rfl) rfl ?_
    refine zs_iconst (v := 1) B dX5_keyAt_19 (by decide) ?_
    refine zs_isub B dX5_keyAt_20 ?_
    refine zs_callS (n := 3) [] B (zm_in hl D dA q 0 (nI U.1.1.length - 1)) gX5_keyAt_X5_in rfl ⟨by decide, by decide, by decide +kernel⟩ rfl (by rfl) rfl (by rfl) ⟨(by exact Nat.le_of_ble_eq_true rfl), (by exact Nat.le_of_ble_eq_true rfl)⟩ (by exact Nat.le_of_ble_eq_true rfl) ⟨(by exact Nat.le_of_ble_eq_true rfl), (by exact Nat.le_of_ble_eq_true rfl)⟩ dX5_keyAt_21 (by rintro v w ⟨rfl, rfl⟩; rfl) (fun _ _ h => h.elim) (fun _ _ h => h.elim) ?_
    rintro r w ⟨rfl, rfl⟩
    refine zs_eq (wl' := zm_W 0 (a, zm_th v 0)) (st' := [.int (zf_b (decide (0 ≤ q ∧ q ≤ nI U.1.1.length - 1))), .ref 0]) rfl rfl rfl rfl ?_
    refine zs_iconst (v := 2) B dX5_keyAt_24 (by decide) ?_
    refine zs_callV0 (n := 2) B (zm_no hl D dA a (zm_th v 0) (decide (0 ≤ q ∧ q ≤ nI U.1.1.length - 1)) 2) gX5_keyAt_X5_no rfl ⟨rfl, by decide, by decide, by decide +kernel⟩ rfl rfl rfl (by rfl) ⟨(by exact Nat.le_of_ble_eq_true rfl), (by exact Nat.le_of_ble_eq_true rfl)⟩ (by exact Nat.le_of_ble_eq_true rfl) ⟨(by exact Nat.le_of_ble_eq_true rfl), (by exact Nat.le_of_ble_eq_true rfl)⟩ dX5_keyAt_25 (by rintro v w ⟨rfl, rfl⟩; rfl) (fun _ _ h => h.elim) (fun _ _ h => h.elim) ?_
    rintro r w ⟨rfl, rfl⟩
    by_cases hq : 0 ≤ q ∧ q ≤ nI U.1.1.length - 1
    · rw [decide_eq_true hq]
      have hq2 := (zm_ixle h12 q).mp hq
      refine zs_if_eq (tgt := 33) B dX5_keyAt_28 (by decide) (fun _ => ?_) (fun h => absurd rfl h)
      obtain ⟨j, hj⟩ := Option.isSome_iff_exists.mp hq2
      rcases zf_ix_cases q (n := U.1.1.length) (by omega) with ⟨-, h⟩ | ⟨-, -, h⟩ | ⟨j', hj', hqj, hix⟩
      · rw [h] at hj; cases hj
      · rw [h] at hj; cases hj
      · subst hqj
        have hrl := zp_row_len hJ o
        obtain ⟨q0, hq0⟩ : ∃ q0, (zp_row U.1 o)[j']? = some q0 := ⟨_, List.getElem?_eq_getElem (by rw [hrl]; exact hj')⟩
        refine zs_aload_n B dX5_keyAt_33 (i := 0) rfl rfl ?_
        refine zs_iload_n B dX5_keyAt_34 (i := 1) rfl rfl ?_
        refine zs_callV0 (n := 1) B (zm_rowM hl D dA (a, zm_th (zm_th v 0) 0) o) gX5_keyAt_X5_row rfl ⟨rfl, by decide, by decide, by decide +kernel⟩ rfl rfl rfl (by rfl) ⟨(by exact Nat.le_of_ble_eq_true rfl), (by exact Nat.le_of_ble_eq_true rfl)⟩ (by exact Nat.le_of_ble_eq_true rfl) ⟨(by exact Nat.le_of_ble_eq_true rfl), (by exact Nat.le_of_ble_eq_true rfl)⟩ dX5_keyAt_35 (by rintro v w ⟨rfl, rfl⟩; rfl) (fun _ _ h => h.elim) (fun _ _ h => h.elim) ?_
        rintro r w ⟨rfl, rfl⟩
        refine zs_iload_n B dX5_keyAt_38 (i := 2) rfl rfl ?_
        refine zs_mget (zm_ro o) j' (zm_roA _) (by omega) rfl B dX5_keyAt_39 ?_
        refine zs_zret hA B rfl rfl (by decide) (by decide) ⟨(a, zm_th (zm_th v 0) 0), Or.inr (Or.inr ⟨hin, hq2, ?_, hR.th2 0 0⟩), rfl⟩ dX5_keyAt_40
        rw [zl_key_at (by rw [hrl]; exact h12) hq0, show a (zm_ro o) j' = q0.1 from zm_rowR hR.1 hin j' q0 hq0]
    · rw [decide_eq_false hq]
      refine zs_if_eq (tgt := 33) B dX5_keyAt_28 (by decide) (fun h => absurd h (by decide)) (fun _ => ?_)
      refine zs_iconst (v := 0) B dX5_keyAt_31 (by decide) ?_
      exact zs_zret hA B rfl rfl (by decide) (by decide) ⟨(a, zm_th (zm_th v 0) 2), Or.inr (Or.inl ⟨hin, fun p => hq ((zm_ixle h12 q).mpr p), rfl, hR.th2 0 2⟩), rfl⟩ dX5_keyAt_32
  · rw [decide_eq_false hin]
    refine zs_if_ne (tgt := 31) B dX5_keyAt_9 (by decide) (fun _ => ?_) (fun h => absurd (show zf_b (!false) = 0 from h) (by decide))
    refine zs_iconst (v := 0) B dX5_keyAt_31 (by decide) ?_
    exact zs_zret hA B rfl rfl (by decide) (by decide) ⟨(a, zm_th v 1), Or.inl ⟨hin, rfl, hR.th 1⟩, rfl⟩ dX5_keyAt_32
set_option maxHeartbeats 8000000 in
theorem zm_placeOf {l : Launch} (hl : l.stackTraces = false) (D : va_G) (dA : Nat → ClassId) (d : zm_D) (U : zm_U) (t : Int32) (hR : zm_R U t d) (hI : zm_I U) (o key : Int32) :
    zw_Sp l D dA yX5_placeOf wsX5_placeOf 5 0 0 [.ref 0, .int o, .int key] (zm_W 0 d)
    (fun r w => ∃ d', ((¬ (o = 99 ∨ o = 97) ∧ r = some (.int 0) ∧ zm_R U 1 d') ∨ ((o = 99 ∨ o = 97) ∧ ¬ zm_has U key ∧ r = some (.int 0) ∧ zm_R U 2 d') ∨ ((o = 99 ∨ o = 97) ∧ zm_has U key ∧ r = some (.int (zl_fi (zp_row U.1 o) key)) ∧ zm_R U 0 d')) ∧ w = zm_W 0 d') (fun _ _ => False) := by
  refine zw_start hl (by decide) rfl rfl (Nat.le_of_ble_eq_true rfl) ?_
  intro pr e s m args below meth c ad A hA B
  obtain ⟨a, v⟩ := d
  have hJ := hI.1.1
  have h12 := hJ.l12
  refine zs_aload_n B dX5_placeOf_0 (i := 0) rfl rfl ?_
  refine zs_iload_n B dX5_placeOf_1 (i := 1) rfl rfl ?_
  refine zs_callS (n := 1) [] B (zm_isOrder hl D dA o) gX5_placeOf_X5_isOrder rfl ⟨by decide, by decide, by decide +kernel⟩ rfl (by rfl) rfl (by rfl) ⟨(by exact Nat.le_of_ble_eq_true rfl), (by exact Nat.le_of_ble_eq_true rfl)⟩ (by exact Nat.le_of_ble_eq_true rfl) ⟨(by exact Nat.le_of_ble_eq_true rfl), (by exact Nat.le_of_ble_eq_true rfl)⟩ dX5_placeOf_2 (by rintro v w ⟨rfl, rfl⟩; rfl) (fun _ _ h => h.elim) (fun _ _ h => h.elim) ?_
  rintro r w ⟨rfl, rfl⟩
  refine zs_eq (wl' := zm_W 0 (a, v)) (st' := [.int (zf_b (decide (o = 99 ∨ o = 97))), .ref 0]) rfl rfl rfl rfl ?_
  refine zs_iconst (v := 1) B dX5_placeOf_5 (by decide) ?_
  refine zs_callV0 (n := 2) B (zm_no hl D dA a v (decide (o = 99 ∨ o = 97)) 1) gX5_placeOf_X5_no rfl ⟨rfl, by decide, by decide, by decide +kernel⟩ rfl rfl rfl (by rfl) ⟨(by exact Nat.le_of_ble_eq_true rfl), (by exact Nat.le_of_ble_eq_true rfl)⟩ (by exact Nat.le_of_ble_eq_true rfl) ⟨(by exact Nat.le_of_ble_eq_true rfl), (by exact Nat.le_of_ble_eq_true rfl)⟩ dX5_placeOf_6 (by rintro v w ⟨rfl, rfl⟩; rfl) (fun _ _ h => h.elim) (fun _ _ h => h.elim) ?_
  rintro r w ⟨rfl, rfl⟩
  by_cases hin : o = 99 ∨ o = 97
  · rw [decide_eq_true hin]
    refine zs_if_eq (tgt := 14) B dX5_placeOf_9 (by decide) (fun _ => ?_) (fun h => absurd rfl h)
    have hrl := zp_row_len hJ o
    have hmem : zl_find (zp_row U.1 o) key < (zp_row U.1 o).length ↔ zm_has U key := by
      unfold zm_has
      rw [zl_find_mem, zl_find_mem]
      unfold zp_row
      split
      · exact hJ.mem key
      · exact Iff.rfl
    refine zs_aload_n B dX5_placeOf_14 (i := 0) rfl rfl ?_
    refine zs_aload_n B dX5_placeOf_15 (i := 0) rfl rfl ?_
    refine zs_iload_n B dX5_placeOf_16 (i := 1) rfl rfl ?_
    refine zs_callV0 (n := 1) B (zm_rowM hl D dA (a, zm_th v 0) o) gX5_placeOf_X5_row rfl ⟨rfl, by decide, by decide, by decide +kernel⟩ rfl rfl rfl (by rfl) ⟨(by exact Nat.le_of_ble_eq_true rfl), (by exact Nat.le_of_ble_eq_true rfl)⟩ (by exact Nat.le_of_ble_eq_true rfl) ⟨(by exact Nat.le_of_ble_eq_true rfl), (by exact Nat.le_of_ble_eq_true rfl)⟩ dX5_placeOf_17 (by rintro v w ⟨rfl, rfl⟩; rfl) (fun _ _ h => h.elim) (fun _ _ h => h.elim) ?_
    rintro r w ⟨rfl, rfl⟩
    refine zs_iload_n B dX5_placeOf_20 (i := 2) rfl rfl ?_
    refine zs_callV0 (n := 2) B (zm_place hl D dA a (zm_th v 0) (zm_ro o) (zm_roA o) (zp_row U.1 o) (zm_rowR hR.1 hin) (by rw [hrl]; exact hR.1.1) (by omega) key) gX5_placeOf_X5_place rfl ⟨rfl, by decide, by decide, by decide +kernel⟩ rfl rfl rfl (by rfl) ⟨(by exact Nat.le_of_ble_eq_true rfl), (by exact Nat.le_of_ble_eq_true rfl)⟩ (by exact Nat.le_of_ble_eq_true rfl) ⟨(by exact Nat.le_of_ble_eq_true rfl), (by exact Nat.le_of_ble_eq_true rfl)⟩ dX5_placeOf_21 (by rintro v w ⟨rfl, rfl⟩; rfl) (fun _ _ h => h.elim) (fun _ _ h => h.elim) ?_
    rintro r w ⟨rfl, rfl⟩
    refine zs_istore_n B dX5_placeOf_24 (i := 3) rfl (by decide) rfl ?_
    refine zs_aload_n B dX5_placeOf_25 (i := 0) rfl rfl ?_
    refine zs_iload_n B dX5_placeOf_26 (i := 3) rfl rfl ?_
    refine zs_if_lt (tgt := 34) B dX5_placeOf_27 (by decide) (fun h => ?_) (fun h => ?_)
    · have hh : ¬ zm_has U key := fun q => Int32.not_lt.mpr ((zl_fi_ge (by omega) key).mpr (hmem.mpr q)) h
      refine zs_iconst (v := 0) B dX5_placeOf_34 (by decide) ?_
      refine zs_iconst (v := 2) B dX5_placeOf_35 (by decide) ?_
      refine zs_callV0 (n := 2) B (zm_no hl D dA a (zm_th v 0) false 2) gX5_placeOf_X5_no rfl ⟨rfl, by decide, by decide, by decide +kernel⟩ rfl rfl rfl (by rfl) ⟨(by exact Nat.le_of_ble_eq_true rfl), (by exact Nat.le_of_ble_eq_true rfl)⟩ (by exact Nat.le_of_ble_eq_true rfl) ⟨(by exact Nat.le_of_ble_eq_true rfl), (by exact Nat.le_of_ble_eq_true rfl)⟩ dX5_placeOf_36 (by rintro v w ⟨rfl, rfl⟩; rfl) (fun _ _ h => h.elim) (fun _ _ h => h.elim) ?_
      rintro r w ⟨rfl, rfl⟩
      refine zs_if_eq (tgt := 46) B dX5_placeOf_39 (by decide) (fun h => absurd h (by decide)) (fun _ => ?_)
      refine zs_iconst (v := 0) B dX5_placeOf_42 (by decide) ?_
      refine zs_goto (tgt := 47) B dX5_placeOf_43 (by decide) ?_
      exact zs_zret hA B rfl rfl (by decide) (by decide) ⟨(a, zm_th (zm_th v 0) 2), Or.inr (Or.inl ⟨hin, hh, rfl, hR.th2 0 2⟩), rfl⟩ dX5_placeOf_47
    · have hh := hmem.mp ((zl_fi_ge (by omega) key).mp (Int32.not_lt.mp h))
      refine zs_iconst (v := 1) B dX5_placeOf_30 (by decide) ?_
      refine zs_goto (tgt := 35) B dX5_placeOf_31 (by decide) ?_
      refine zs_iconst (v := 2) B dX5_placeOf_35 (by decide) ?_
      refine zs_callV0 (n := 2) B (zm_no hl D dA a (zm_th v 0) true 2) gX5_placeOf_X5_no rfl ⟨rfl, by decide, by decide, by decide +kernel⟩ rfl rfl rfl (by rfl) ⟨(by exact Nat.le_of_ble_eq_true rfl), (by exact Nat.le_of_ble_eq_true rfl)⟩ (by exact Nat.le_of_ble_eq_true rfl) ⟨(by exact Nat.le_of_ble_eq_true rfl), (by exact Nat.le_of_ble_eq_true rfl)⟩ dX5_placeOf_36 (by rintro v w ⟨rfl, rfl⟩; rfl) (fun _ _ h => h.elim) (fun _ _ h => h.elim) ?_
      rintro r w ⟨rfl, rfl⟩
      refine zs_if_eq (tgt := 46) B dX5_placeOf_39 (by decide) (fun _ => ?_) (fun h => absurd rfl h)
      refine zs_iload_n B dX5_placeOf_46 (i := 3) rfl rfl ?_
      exact zs_zret hA B rfl rfl (by decide) (by decide) ⟨(a, zm_th (zm_th v 0) 0), Or.inr (Or.inr ⟨hin, hh, rfl, hR.th2 0 0⟩), rfl⟩ dX5_placeOf_47
  · rw [decide_eq_false hin]
    refine zs_if_eq (tgt := 14) B dX5_placeOf_9 (by decide) (fun h => absurd h (by decide)) (fun _ => ?_)
    refine zs_iconst (v := 0) B dX5_placeOf_12 (by decide) ?_
    exact zs_zret hA B rfl rfl (by decide) (by decide) ⟨(a, zm_th v 1), Or.inl ⟨hin, rfl, hR.th 1⟩, rfl⟩ dX5_placeOf_13
