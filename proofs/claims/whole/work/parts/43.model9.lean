/-! the model: walks -/
theorem zm_R.up34 {U : zm_U} {t : Int32} {a a' : zm_A} {v v' : zm_V} (h : zm_R U t (a, v)) (hh : ∀ k, k ≠ 34 → a' k = a k) (e1 : v'.1 = v.1) (e2 : v'.2.1 = v.2.1) (e3 : v'.2.2.1 = v.2.2.1) (e4 : v'.2.2.2.1 = v.2.2.2.1) {W : zm_Wk} (hw : zm_w W (a' 34) v'.2.2.2.2.1 v'.2.2.2.2.2.1 v'.2.2.2.2.2.2.1 v'.2.2.2.2.2.2.2.1) (et : zm_t v' = t) : zm_R (U.1, U.2.1, W) t (a', v') := by
  obtain ⟨h1, ⟨n, hn, h2⟩, h3, h4⟩ := h
  refine ⟨?_, ⟨n, e4.trans hn, h2.1, h2.2.1, fun j S' hj => ?_⟩, hw, et⟩
  · show zm_P U.1 (a' 1) (a' 2) (a' 3) v'.1 v'.2.1 v'.2.2.1
    rw [hh 1 (by decide), hh 2 (by decide), hh 3 (by decide), e1, e2, e3]
    exact h1
  · have := h2.2.2 j S' hj
    have hl : U.2.1.length ≤ 8 := h2.2.1
    unfold zm_pg at this ⊢
    show zm_P S' (a' _) (a' _) (a' _) (a' 31 _) (a' 32 _) (a' 33 _)
    have hj8 : U.2.1.length - 1 - j < 8 := by omega
    have g1 : a' (5 + (U.2.1.length - 1 - j)) = a (5 + (U.2.1.length - 1 - j)) := hh _ (by omega)
    have g2 : a' (14 + (U.2.1.length - 1 - j)) = a (14 + (U.2.1.length - 1 - j)) := hh _ (by omega)
    have g3 : a' (23 + (U.2.1.length - 1 - j)) = a (23 + (U.2.1.length - 1 - j)) := hh _ (by omega)
    rw [g1, g2, g3, hh 31 (by decide), hh 32 (by decide), hh 33 (by decide)]
    exact this
set_option maxHeartbeats 8000000 in
theorem zm_walk {l : Launch} (hl : l.stackTraces = false) (D : va_G) (dA : Nat → ClassId) (d : zm_D) (U : zm_U) (t : Int32) (hR : zm_R U t d) (hI : zm_I U) (o : Int32) :
    zw_Sp l D dA yX5_walk wsX5_walk 5 0 0 [.ref 0, .int o] (zm_W 0 d)
    (fun r w => ∃ d', ((¬ (o = 99 ∨ o = 97) ∧ r = some (.int 0) ∧ zm_R U 1 d') ∨ ((o = 99 ∨ o = 97) ∧ r = some (.int (nI U.1.1.length)) ∧ zm_R (U.1, U.2.1, (1, (zp_row U.1 o).map (·.1), -1)) 0 d')) ∧ w = zm_W 0 d') (fun _ _ => False) := by
  refine zw_start hl (by decide) rfl rfl (Nat.le_of_ble_eq_true rfl) ?_
  intro pr e s m args below meth c ad A hA B
  obtain ⟨a, v⟩ := d
  have hJ := hI.1.1
  have h12 := hJ.l12
  refine zs_aload_n B dX5_walk_0 (i := 0) rfl rfl ?_
  refine zs_iload_n B dX5_walk_1 (i := 1) rfl rfl ?_
  refine zs_callS (n := 1) [] B (zm_isOrder hl D dA o) gX5_walk_X5_isOrder rfl ⟨by decide, by decide, by decide +kernel⟩ rfl (by rfl) rfl (by rfl) ⟨(by exact Nat.le_of_ble_eq_true rfl), (by exact Nat.le_of_ble_eq_true rfl)⟩ (by exact Nat.le_of_ble_eq_true rfl) ⟨(by exact Nat.le_of_ble_eq_true rfl), (by exact Nat.le_of_ble_eq_true rfl)⟩ dX5_walk_2 (by rintro v w ⟨rfl, rfl⟩; rfl) (fun _ _ h => h.elim) (fun _ _ h => h.elim) ?_
  rintro r w ⟨rfl, rfl⟩
  refine zs_eq (wl' := zm_W 0 (a, v)) (st' := [.int (zf_b (decide (o = 99 ∨ o = 97))), .ref 0]) rfl rfl rfl rfl ?_
  refine zs_iconst (v := 1) B dX5_walk_5 (by decide) ?_
  refine zs_callV0 (n := 2) B (zm_no hl D dA a v (decide (o = 99 ∨ o = 97)) 1) gX5_walk_X5_no rfl ⟨rfl, by decide, by decide, by decide +kernel⟩ rfl rfl rfl (by rfl) ⟨(by exact Nat.le_of_ble_eq_true rfl), (by exact Nat.le_of_ble_eq_true rfl)⟩ (by exact Nat.le_of_ble_eq_true rfl) ⟨(by exact Nat.le_of_ble_eq_true rfl), (by exact Nat.le_of_ble_eq_true rfl)⟩ dX5_walk_6 (by rintro v w ⟨rfl, rfl⟩; rfl) (fun _ _ h => h.elim) (fun _ _ h => h.elim) ?_
  rintro r w ⟨rfl, rfl⟩
  by_cases hin : o = 99 ∨ o = 97
  · rw [decide_eq_true hin]
    refine zs_if_eq (tgt := 14) B dX5_walk_9 (by decide) (fun _ => ?_) (fun h => absurd rfl h)
    refine zs_aload_n B dX5_walk_14 (i := 0) rfl rfl ?_
    refine zs_iconst (v := 1) B dX5_walk_15 (by decide) ?_
    refine zs_put B (wX5_walk_74 rfl rfl) rfl (Nat.le_of_ble_eq_true rfl) dX5_walk_16 ?_
    refine zs_eq (wl' := zm_W 0 (a, (v.1, v.2.1, v.2.2.1, v.2.2.2.1, 1, v.2.2.2.2.2.1, v.2.2.2.2.2.2.1, v.2.2.2.2.2.2.2.1, 0))) rfl rfl rfl rfl ?_
    refine zs_aload_n B dX5_walk_19 (i := 0) rfl rfl ?_
    refine zs_iload_n B dX5_walk_20 (i := 1) rfl rfl ?_
    refine zs_callV0 (n := 1) B (zm_rowM hl D dA (a, (v.1, v.2.1, v.2.2.1, v.2.2.2.1, 1, v.2.2.2.2.2.1, v.2.2.2.2.2.2.1, v.2.2.2.2.2.2.2.1, 0)) o) gX5_walk_X5_row rfl ⟨rfl, by decide, by decide, by decide +kernel⟩ rfl rfl rfl (by rfl) ⟨(by exact Nat.le_of_ble_eq_true rfl), (by exact Nat.le_of_ble_eq_true rfl)⟩ (by exact Nat.le_of_ble_eq_true rfl) ⟨(by exact Nat.le_of_ble_eq_true rfl), (by exact Nat.le_of_ble_eq_true rfl)⟩ dX5_walk_21 (by rintro v w ⟨rfl, rfl⟩; rfl) (fun _ _ h => h.elim) (fun _ _ h => h.elim) ?_
    rintro r w ⟨rfl, rfl⟩
    refine zs_aload_n B dX5_walk_24 (i := 0) rfl rfl ?_
    refine zs_get B fX5_walk_48 rfl rfl dX5_walk_25 ?_
    refine zs_copy hl (zm_ro o) 34 (zm_roA o) zm_a34 (by unfold zm_ro; split <;> decide) B gX5_walk_X5_copied ⟨Nat.le_of_ble_eq_true rfl, Nat.le_of_ble_eq_true rfl⟩ (Nat.le_of_ble_eq_true rfl) ⟨Nat.le_refl _, Nat.le_refl _⟩ dX5_walk_28 ?_
    generalize ha1 : va_up a 34 (zf_cp 13 (a (zm_ro o)) (a 34)) = a1
    refine zs_aload_n B dX5_walk_31 (i := 0) rfl rfl ?_
    refine zs_aload_n B dX5_walk_32 (i := 0) rfl rfl ?_
    refine zs_get B fX5_walk_57 rfl rfl dX5_walk_33 ?_
    refine zs_put B (wX5_walk_112 rfl rfl) rfl (Nat.le_of_ble_eq_true rfl) dX5_walk_36 ?_
    refine zs_aload_n B dX5_walk_39 (i := 0) rfl rfl ?_
    refine zs_iconst (v := 0) B dX5_walk_40 (by decide) ?_
    refine zs_put B (wX5_walk_115 rfl rfl) rfl (Nat.le_of_ble_eq_true rfl) dX5_walk_41 ?_
    refine zs_aload_n B dX5_walk_44 (i := 0) rfl rfl ?_
    refine zs_iconst (v := (-1)) B dX5_walk_45 (by decide) ?_
    refine zs_put B (wX5_walk_51 rfl rfl) rfl (Nat.le_of_ble_eq_true rfl) dX5_walk_46 ?_
    refine zs_aload_n B dX5_walk_49 (i := 0) rfl rfl ?_
    refine zs_get B fX5_walk_57 rfl rfl dX5_walk_50 ?_
    have hv : v.1 = nI U.1.1.length := hR.1.1
    refine zs_zret hA B rfl rfl (by decide) (by decide) ⟨(a1, (v.1, v.2.1, v.2.2.1, v.2.2.2.1, 1, v.1, 0, -1, 0)), Or.inr ⟨hin, ?_, ?_⟩, rfl⟩ dX5_walk_53
    · rw [← hv]
    · refine zm_R.up34 (v := zm_th v 0) (a' := a1) (v' := (v.1, v.2.1, v.2.2.1, v.2.2.2.1, 1, v.1, 0, -1, 0)) (W := (1, (zp_row U.1 o).map (·.1), -1)) (hR.th 0) (fun k hk => by rw [← ha1, va_up_ne _ _ hk]) rfl rfl rfl rfl ?_ rfl
      refine ⟨rfl, rfl, Or.inr rfl, 0, U.1.1.length, rfl, hv, ?_, h12, fun i x hx => ?_⟩
      · show 0 + ((zp_row U.1 o).map (·.1)).length = _
        rw [List.length_map, zp_row_len hJ, Nat.zero_add]
      · have hx : ((zp_row U.1 o).map (·.1))[i]? = some x := hx
        rw [List.getElem?_map] at hx
        obtain ⟨q, hq, rfl⟩ := Option.map_eq_some_iff.mp hx
        have hi := (List.getElem?_eq_some_iff.mp hq).1
        rw [zp_row_len hJ] at hi
        rw [← ha1, va_up_self, Nat.zero_add, zf_cp_lt _ _ (by omega)]
        exact zm_rowR hR.1 hin i q hq
  · rw [decide_eq_false hin]
    refine zs_if_eq (tgt := 14) B dX5_walk_9 (by decide) (fun h => absurd h (by decide)) (fun _ => ?_)
    refine zs_iconst (v := 0) B dX5_walk_12 (by decide) ?_
    exact zs_zret hA B rfl rfl (by decide) (by decide) ⟨(a, zm_th v 1), Or.inl ⟨hin, rfl, hR.th 1⟩, rfl⟩ dX5_walk_13
set_option maxHeartbeats 8000000 in
theorem zm_step {l : Launch} (hl : l.stackTraces = false) (D : va_G) (dA : Nat → ClassId) (d : zm_D) (U : zm_U) (t : Int32) (hR : zm_R U t d) :
    zw_Sp l D dA yX5_step wsX5_step 5 0 0 [.ref 0] (zm_W 0 d)
    (fun r w => ∃ d', ((U.2.2.1 = 0 ∧ r = some (.int 0) ∧ zm_R U 1 d') ∨ (U.2.2.1 = 1 ∧ U.2.2.2.1 = [] ∧ r = some (.int 0) ∧ zm_R U 2 d') ∨ (U.2.2.1 = 1 ∧ ∃ k rest', U.2.2.2.1 = k :: rest' ∧ r = some (.int k) ∧ zm_R (U.1, U.2.1, (1, rest', k)) 0 d')) ∧ w = zm_W 0 d') (fun _ _ => False) := by
  refine zw_start hl (by decide) rfl rfl (Nat.le_of_ble_eq_true rfl) ?_
  intro pr e s m args below meth c ad A hA B
  obtain ⟨a, v⟩ := d
  obtain ⟨w1, w2, w3, n, p, w4, w5, w6, w7, w8⟩ := hR.2.2.1
  have w1 : v.2.2.2.2.1 = U.2.2.1 := w1
  have w4 : v.2.2.2.2.2.2.1 = nI n := w4
  have w5 : v.2.2.2.2.2.1 = nI p := w5
  refine zs_aload_n B dX5_step_0 (i := 0) rfl rfl ?_
  refine zs_aload_n B dX5_step_1 (i := 0) rfl rfl ?_
  refine zs_get B fX5_step_74 rfl rfl dX5_step_2 ?_
  refine zs_iconst (v := 1) B dX5_step_5 (by decide) ?_
  rcases w3 with w3 | w3
  · refine zs_eq (wl' := zm_W 0 (a, v)) (st' := [.int 1, .int (zf_b false), .ref 0]) rfl rfl (by show [_, Value.int v.2.2.2.2.1, _] = _; rw [w1, w3]; rfl) rfl ?_
    refine zs_callV0 (n := 2) B (zm_no hl D dA a v false 1) gX5_step_X5_no rfl ⟨rfl, by decide, by decide, by decide +kernel⟩ rfl rfl rfl (by rfl) ⟨(by exact Nat.le_of_ble_eq_true rfl), (by exact Nat.le_of_ble_eq_true rfl)⟩ (by exact Nat.le_of_ble_eq_true rfl) ⟨(by exact Nat.le_of_ble_eq_true rfl), (by exact Nat.le_of_ble_eq_true rfl)⟩ dX5_step_6 (by rintro v w ⟨rfl, rfl⟩; rfl) (fun _ _ h => h.elim) (fun _ _ h => h.elim) ?_
    rintro r w ⟨rfl, rfl⟩
    refine zs_if_ne (tgt := 36) B dX5_step_9 (by decide) (fun _ => ?_) (fun h => absurd (show zf_b (!false) = 0 from h) (by decide))
    refine zs_iconst (v := 0) B dX5_step_36 (by decide) ?_
    exact zs_zret hA B rfl rfl (by decide) (by decide) ⟨(a, zm_th v 1), Or.inl ⟨w3, rfl, hR.th 1⟩, rfl⟩ dX5_step_37
  · refine zs_eq (wl' := zm_W 0 (a, v)) (st' := [.int 1, .int (zf_b true), .ref 0]) rfl rfl (by show [_, Value.int v.2.2.2.2.1, _] = _; rw [w1, w3]; rfl) rfl ?_
    refine zs_callV0 (n := 2) B (zm_no hl D dA a v true 1) gX5_step_X5_no rfl ⟨rfl, by decide, by decide, by decide +kernel⟩ rfl rfl rfl (by rfl) ⟨(by exact Nat.le_of_ble_eq_true rfl), (by exact Nat.le_of_ble_eq_true rfl)⟩ (by exact Nat.le_of_ble_eq_true rfl) ⟨(by exact Nat.le_of_ble_eq_true rfl), (by exact Nat.le_of_ble_eq_true rfl)⟩ dX5_step_6 (by rintro v w ⟨rfl, rfl⟩; rfl) (fun _ _ h => h.elim) (fun _ _ h => h.elim) ?_
    rintro r w ⟨rfl, rfl⟩
    refine zs_if_ne (tgt := 36) B dX5_step_9 (by decide) (fun h => absurd rfl h) (fun _ => ?_)
    refine zs_aload_n B dX5_step_12 (i := 0) rfl rfl ?_
    refine zs_aload_n B dX5_step_13 (i := 0) rfl rfl ?_
    refine zs_get B fX5_step_115 rfl rfl dX5_step_14 ?_
    refine zs_aload_n B dX5_step_17 (i := 0) rfl rfl ?_
    refine zs_get B fX5_step_112 rfl rfl dX5_step_18 ?_
    refine zs_eq (wl' := zm_W 0 (a, zm_th v 0)) (st' := [.int (nI p), .int (nI n), .ref 0]) rfl rfl (by show [Value.int v.2.2.2.2.2.1, Value.int v.2.2.2.2.2.2.1, _] = _; rw [w4, w5]) rfl ?_
    refine zs_icmp_ge (tgt := 28) B dX5_step_21 (by decide) (fun h => ?_) (fun h => ?_)
    · have hnp := (nI_leI (by omega) (by omega)).mp h
      have hnil : U.2.2.2.1 = [] := List.eq_nil_of_length_eq_zero (by omega)
      refine zs_iconst (v := 0) B dX5_step_28 (by decide) ?_
      refine zs_iconst (v := 2) B dX5_step_29 (by decide) ?_
      refine zs_callV0 (n := 2) B (zm_no hl D dA a (zm_th v 0) false 2) gX5_step_X5_no rfl ⟨rfl, by decide, by decide, by decide +kernel⟩ rfl rfl rfl (by rfl) ⟨(by exact Nat.le_of_ble_eq_true rfl), (by exact Nat.le_of_ble_eq_true rfl)⟩ (by exact Nat.le_of_ble_eq_true rfl) ⟨(by exact Nat.le_of_ble_eq_true rfl), (by exact Nat.le_of_ble_eq_true rfl)⟩ dX5_step_30 (by rintro v w ⟨rfl, rfl⟩; rfl) (fun _ _ h => h.elim) (fun _ _ h => h.elim) ?_
      rintro r w ⟨rfl, rfl⟩
      refine zs_if_eq (tgt := 38) B dX5_step_33 (by decide) (fun h => absurd h (by decide)) (fun _ => ?_)
      refine zs_iconst (v := 0) B dX5_step_36 (by decide) ?_
      exact zs_zret hA B rfl rfl (by decide) (by decide) ⟨(a, zm_th (zm_th v 0) 2), Or.inr (Or.inl ⟨w3, hnil, rfl, hR.th2 0 2⟩), rfl⟩ dX5_step_37
    · have hnp : n < p := by
        rcases Nat.lt_or_ge n p with q | q
        · exact q
        · exact absurd (nI_le q (by omega)) h
      obtain ⟨k, rest', hk⟩ : ∃ k rest', U.2.2.2.1 = k :: rest' := by
        cases hc : U.2.2.2.1 with
        | nil => rw [hc] at w6; exact absurd w6 (by show ¬ n + 0 = p; omega)
        | cons k rest' => exact ⟨k, rest', rfl⟩
      have hk0 : a 34 n = k := w8 0 k (by rw [hk]; rfl)
      rw [hk] at w6 w8
      refine zs_iconst (v := 1) B dX5_step_24 (by decide) ?_
      refine zs_goto (tgt := 29) B dX5_step_25 (by decide) ?_
      refine zs_iconst (v := 2) B dX5_step_29 (by decide) ?_
      refine zs_callV0 (n := 2) B (zm_no hl D dA a (zm_th v 0) true 2) gX5_step_X5_no rfl ⟨rfl, by decide, by decide, by decide +kernel⟩ rfl rfl rfl (by rfl) ⟨(by exact Nat.le_of_ble_eq_true rfl), (by exact Nat.le_of_ble_eq_true rfl)⟩ (by exact Nat.le_of_ble_eq_true rfl) ⟨(by exact Nat.le_of_ble_eq_true rfl), (by exact Nat.le_of_ble_eq_true rfl)⟩ dX5_step_30 (by rintro v w ⟨rfl, rfl⟩; rfl) (fun _ _ h => h.elim) (fun _ _ h => h.elim) ?_
      rintro r w ⟨rfl, rfl⟩
      refine zs_if_eq (tgt := 38) B dX5_step_33 (by decide) (fun _ => ?_) (fun h => absurd rfl h)
      refine zs_aload_n B dX5_step_38 (i := 0) rfl rfl ?_
      refine zs_aload_n B dX5_step_39 (i := 0) rfl rfl ?_
      refine zs_get B fX5_step_48 rfl rfl dX5_step_40 ?_
      refine zs_aload_n B dX5_step_43 (i := 0) rfl rfl ?_
      refine zs_get B fX5_step_115 rfl rfl dX5_step_44 ?_
      refine zs_mget 34 n zm_a34 (by omega) w4 B dX5_step_47 ?_
      rw [hk0]
      refine zs_put B (wX5_step_51 rfl rfl) rfl (Nat.le_of_ble_eq_true rfl) dX5_step_48 ?_
      refine zs_aload_n B dX5_step_51 (i := 0) rfl rfl ?_
      refine zs_dup B dX5_step_52 rfl ?_
      refine zs_get B fX5_step_115 rfl rfl dX5_step_53 ?_
      refine zs_iconst (v := 1) B dX5_step_56 (by decide) ?_
      refine zs_iadd B dX5_step_57 ?_
      refine zs_topi (fun y hy => ?_)
      have hy : y = nI (n + 1) := by rw [hy]; show v.2.2.2.2.2.2.1 + 1 = _; rw [w4]; exact nI_1 n
      subst hy
      refine zs_put B (wX5_step_115 rfl rfl) rfl (Nat.le_of_ble_eq_true rfl) dX5_step_58 ?_
      refine zs_aload_n B dX5_step_61 (i := 0) rfl rfl ?_
      refine zs_get B fX5_step_51 rfl rfl dX5_step_62 ?_
      refine zs_zret hA B rfl rfl (by decide) (by decide) ⟨(a, (v.1, v.2.1, v.2.2.1, v.2.2.2.1, v.2.2.2.2.1, v.2.2.2.2.2.1, nI (n + 1), k, 0)), Or.inr (Or.inr ⟨w3, k, rest', hk, rfl, ?_⟩), rfl⟩ dX5_step_65
      refine zm_R.up34 (v := zm_th v 0) (a' := a) (v' := (v.1, v.2.1, v.2.2.1, v.2.2.2.1, v.2.2.2.2.1, v.2.2.2.2.2.1, nI (n + 1), k, 0)) (W := (1, rest', k)) (hR.th 0) (fun k hk => rfl) rfl rfl rfl rfl ?_ rfl
      refine ⟨by show v.2.2.2.2.1 = 1; rw [w1, w3], rfl, Or.inr rfl, n + 1, p, rfl, w5, ?_, w7, fun i x hx => ?_⟩
      · have w6 : n + (rest'.length + 1) = p := w6
        show n + 1 + rest'.length = p
        omega
      · have := w8 (i + 1) x hx
        rw [show n + 1 + i = n + (i + 1) by omega]
        exact this
set_option maxHeartbeats 8000000 in
theorem zm_cut {l : Launch} (hl : l.stackTraces = false) (D : va_G) (dA : Nat → ClassId) (d : zm_D) (U : zm_U) (t : Int32) (hR : zm_R U t d) (hI : zm_I U) (hm : U.2.2.1 = 1 → ¬ U.2.2.2.2 < 0 → U.2.2.2.2 ∈ U.1.1.map (·.1)) :
    zw_Sp l D dA yX5_cut wsX5_cut 5 0 0 [.ref 0] (zm_W 0 d)
    (fun r w => ∃ d', (((U.2.2.1 = 0 ∨ U.2.2.2.2 < 0) ∧ r = some (.int 0) ∧ zm_R U 1 d') ∨ (U.2.2.1 = 1 ∧ ¬ U.2.2.2.2 < 0 ∧ r = some (.int (nI (zp_take U.1 U.2.2.2.2).1.length)) ∧ zm_R (zp_take U.1 U.2.2.2.2, (U.1 :: U.2.1).take 8, (1, U.2.2.2.1, -1)) 0 d')) ∧ w = zm_W 0 d') (fun _ _ => False) := by
  refine zw_start hl (by decide) rfl rfl (Nat.le_of_ble_eq_true rfl) ?_
  intro pr e s m args below meth c ad A hA B
  obtain ⟨a, v⟩ := d
  have hJ := hI.1.1
  have hR' := hR
  obtain ⟨hP, ⟨n9, hn, hH⟩, ⟨w1, w2, w3, n, p, w4, w5, w6, w7, w8⟩, ht⟩ := hR'
  have w1 : v.2.2.2.2.1 = U.2.2.1 := w1
  have w2 : v.2.2.2.2.2.2.2.1 = U.2.2.2.2 := w2
  refine zs_aload_n B dX5_cut_0 (i := 0) rfl rfl ?_
  refine zs_aload_n B dX5_cut_1 (i := 0) rfl rfl ?_
  refine zs_get B fX5_cut_74 rfl rfl dX5_cut_2 ?_
  refine zs_eq (wl' := zm_W 0 (a, v)) (st' := [.int U.2.2.1, .ref 0]) rfl rfl (by show [Value.int v.2.2.2.2.1, _] = _; rw [w1]) rfl ?_
  refine zs_if_eq (tgt := 19) B dX5_cut_5 (by decide) (fun h => ?_) (fun h => ?_)
  · refine zs_iconst (v := 0) B dX5_cut_19 (by decide) ?_
    refine zs_iconst (v := 1) B dX5_cut_20 (by decide) ?_
    refine zs_callV0 (n := 2) B (zm_no hl D dA a v false 1) gX5_cut_X5_no rfl ⟨rfl, by decide, by decide, by decide +kernel⟩ rfl rfl rfl (by rfl) ⟨(by exact Nat.le_of_ble_eq_true rfl), (by exact Nat.le_of_ble_eq_true rfl)⟩ (by exact Nat.le_of_ble_eq_true rfl) ⟨(by exact Nat.le_of_ble_eq_true rfl), (by exact Nat.le_of_ble_eq_true rfl)⟩ dX5_cut_21 (by rintro v w ⟨rfl, rfl⟩; rfl) (fun _ _ h => h.elim) (fun _ _ h => h.elim) ?_
    rintro r w ⟨rfl, rfl⟩
    refine zs_if_eq (tgt := 29) B dX5_cut_24 (by decide) (fun h => absurd h (by decide)) (fun _ => ?_)
    refine zs_iconst (v := 0) B dX5_cut_27 (by decide) ?_
    exact zs_zret hA B rfl rfl (by decide) (by decide) ⟨(a, zm_th v 1), Or.inl ⟨Or.inl h, rfl, hR.th 1⟩, rfl⟩ dX5_cut_28
  · have h1 : U.2.2.1 = 1 := w3.resolve_left h
    refine zs_aload_n B dX5_cut_8 (i := 0) rfl rfl ?_
    refine zs_get B fX5_cut_51 rfl rfl dX5_cut_9 ?_
    refine zs_eq (wl' := zm_W 0 (a, v)) (st' := [.int U.2.2.2.2, .ref 0]) rfl rfl (by show [Value.int v.2.2.2.2.2.2.2.1, _] = _; rw [w2]) rfl ?_
    refine zs_if_lt (tgt := 19) B dX5_cut_12 (by decide) (fun h2 => ?_) (fun h2 => ?_)
    · refine zs_iconst (v := 0) B dX5_cut_19 (by decide) ?_
      refine zs_iconst (v := 1) B dX5_cut_20 (by decide) ?_
      refine zs_callV0 (n := 2) B (zm_no hl D dA a v false 1) gX5_cut_X5_no rfl ⟨rfl, by decide, by decide, by decide +kernel⟩ rfl rfl rfl (by rfl) ⟨(by exact Nat.le_of_ble_eq_true rfl), (by exact Nat.le_of_ble_eq_true rfl)⟩ (by exact Nat.le_of_ble_eq_true rfl) ⟨(by exact Nat.le_of_ble_eq_true rfl), (by exact Nat.le_of_ble_eq_true rfl)⟩ dX5_cut_21 (by rintro v w ⟨rfl, rfl⟩; rfl) (fun _ _ h => h.elim) (fun _ _ h => h.elim) ?_
      rintro r w ⟨rfl, rfl⟩
      refine zs_if_eq (tgt := 29) B dX5_cut_24 (by decide) (fun h => absurd h (by decide)) (fun _ => ?_)
      refine zs_iconst (v := 0) B dX5_cut_27 (by decide) ?_
      exact zs_zret hA B rfl rfl (by decide) (by decide) ⟨(a, zm_th v 1), Or.inl ⟨Or.inr h2, rfl, hR.th 1⟩, rfl⟩ dX5_cut_28
    · refine zs_iconst (v := 1) B dX5_cut_15 (by decide) ?_
      refine zs_goto (tgt := 20) B dX5_cut_16 (by decide) ?_
      refine zs_iconst (v := 1) B dX5_cut_20 (by decide) ?_
      refine zs_callV0 (n := 2) B (zm_no hl D dA a v true 1) gX5_cut_X5_no rfl ⟨rfl, by decide, by decide, by decide +kernel⟩ rfl rfl rfl (by rfl) ⟨(by exact Nat.le_of_ble_eq_true rfl), (by exact Nat.le_of_ble_eq_true rfl)⟩ (by exact Nat.le_of_ble_eq_true rfl) ⟨(by exact Nat.le_of_ble_eq_true rfl), (by exact Nat.le_of_ble_eq_true rfl)⟩ dX5_cut_21 (by rintro v w ⟨rfl, rfl⟩; rfl) (fun _ _ h => h.elim) (fun _ _ h => h.elim) ?_
      rintro r w ⟨rfl, rfl⟩
      refine zs_if_eq (tgt := 29) B dX5_cut_24 (by decide) (fun _ => ?_) (fun h => absurd rfl h)
      refine zs_aload_n B dX5_cut_29 (i := 0) rfl rfl ?_
      refine zs_callV0 (n := 0) B (zm_keeps hl D dA a (zm_th v 0) U.1 U.2.1 n9 hP hI.1.g hH hn (fun S hS => (hI.2 S hS).g)) gX5_cut_X5_keeps rfl ⟨rfl, by decide, by decide, by decide +kernel⟩ rfl rfl rfl (by rfl) ⟨(by exact Nat.le_of_ble_eq_true rfl), (by exact Nat.le_of_ble_eq_true rfl)⟩ (by exact Nat.le_of_ble_eq_true rfl) ⟨(by exact Nat.le_of_ble_eq_true rfl), (by exact Nat.le_of_ble_eq_true rfl)⟩ dX5_cut_30 (by rintro v w ⟨rfl, a9, ⟨n9, h8, rfl⟩, h9⟩; rfl) (fun _ _ h => h.elim) (fun _ _ h => h.elim) ?_
      rintro r w ⟨rfl, a', ⟨n', hH', rfl⟩, k1, k2, k3, k4⟩
      have hR2 : zm_R (U.1, (U.1 :: U.2.1).take 8, U.2.2) 0 (a', zm_v3 (zm_th v 0) (nI n')) := by
        refine ⟨?_, ⟨n', rfl, hH'⟩, ⟨w1, w2, w3, n, p, w4, w5, w6, w7, fun i x hx => ?_⟩, rfl⟩
        · show zm_P U.1 (a' 1) (a' 2) (a' 3) _ _ _
          rw [k1, k2, k3]
          exact hP
        · show a' 34 _ = x
          rw [k4]
          exact w8 i x hx
      refine zs_aload_n B dX5_cut_33 (i := 0) rfl rfl ?_
      refine zs_aload_n B dX5_cut_34 (i := 0) rfl rfl ?_
      refine zs_get B fX5_cut_51 rfl rfl dX5_cut_35 ?_
      refine zs_eq (wl' := zm_W 0 (a', zm_v3 (zm_th v 0) (nI n'))) (st' := [.int U.2.2.2.2, .ref 0]) rfl rfl (by show [Value.int v.2.2.2.2.2.2.2.1, _] = _; rw [w2]) rfl ?_
      refine zs_callV0 (n := 1) B (zm_outJ hl D dA _ (U.1, (U.1 :: U.2.1).take 8, U.2.2) 0 hR2 hJ U.2.2.2.2 (hm h1 h2)) gX5_cut_X5_out rfl ⟨rfl, by decide, by decide, by decide +kernel⟩ rfl rfl rfl (by rfl) ⟨(by exact Nat.le_of_ble_eq_true rfl), (by exact Nat.le_of_ble_eq_true rfl)⟩ (by exact Nat.le_of_ble_eq_true rfl) ⟨(by exact Nat.le_of_ble_eq_true rfl), (by exact Nat.le_of_ble_eq_true rfl)⟩ dX5_cut_38 (by rintro v w ⟨rfl, x9, h9, rfl⟩; rfl) (fun _ _ h => h.elim) (fun _ _ h => h.elim) ?_
      rintro r w ⟨rfl, ⟨a3, v3⟩, hR3, rfl⟩
      refine zs_aload_n B dX5_cut_41 (i := 0) rfl rfl ?_
      refine zs_iconst (v := (-1)) B dX5_cut_42 (by decide) ?_
      refine zs_put B (wX5_cut_51 rfl rfl) rfl (Nat.le_of_ble_eq_true rfl) dX5_cut_43 ?_
      refine zs_aload_n B dX5_cut_46 (i := 0) rfl rfl ?_
      refine zs_get B fX5_cut_57 rfl rfl dX5_cut_47 ?_
      have hv3 : v3.1 = nI (zp_take U.1 U.2.2.2.2).1.length := hR3.1.1
      refine zs_zret hA B rfl rfl (by decide) (by decide) ⟨(a3, (v3.1, v3.2.1, v3.2.2.1, v3.2.2.2.1, v3.2.2.2.2.1, v3.2.2.2.2.2.1, v3.2.2.2.2.2.2.1, -1, v3.2.2.2.2.2.2.2.2)), Or.inr ⟨h1, h2, ?_, ?_⟩, rfl⟩ dX5_cut_50
      · rw [← hv3]
      · refine zm_R.up34 (a' := a3) (v' := (v3.1, v3.2.1, v3.2.2.1, v3.2.2.2.1, v3.2.2.2.2.1, v3.2.2.2.2.2.1, v3.2.2.2.2.2.2.1, -1, v3.2.2.2.2.2.2.2.2)) (W := (1, U.2.2.2.1, -1)) hR3 (fun k hk => rfl) rfl rfl rfl rfl ?_ hR3.2.2.2
        obtain ⟨y1, y2, y3, n4, p4, y4, y5, y6, y7, y8⟩ := hR3.2.2.1
        exact ⟨y1.trans h1, rfl, Or.inr rfl, n4, p4, y4, y5, y6, y7, y8⟩
