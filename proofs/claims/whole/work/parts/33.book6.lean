/-! the class's last promise but one: isTrue -/
theorem zb_upRC (x : zb_D) (d : zr_D) : zw_back (zb_W x) [67, 68, 69, 2, 3, 4] ((zr_W 0 d ++ zr_W 3 x.1.1).map (zw_rE [67, 68, 69, 2, 3, 4])) = zb_W (x.1, x.2.1, x.2.2.1, d) := by
  have h1 : (zr_W 0 d ++ zr_W 3 x.1.1).map (zw_rE [67, 68, 69, 2, 3, 4]) = zr_W 67 d ++ zr_W 2 x.1.1 := rfl
  rw [h1]
  refine (zw_back_app [67, 68, 69] [2, 3, 4] (zr_W 67 d) (zr_W 2 x.1.1) _ rfl).trans ?_
  have h2 : zw_back (zb_W x) [2, 3, 4] (zr_W 2 x.1.1) = zb_W x := rfl
  rw [h2]
  exact zb_upR x d
theorem zb_upRA (x : zb_D) (d : zr_D) : zw_back (zb_W x) [67, 68, 69, 5, 6, 7] ((zr_W 0 d ++ zr_W 3 x.1.2.1).map (zw_rE [67, 68, 69, 5, 6, 7])) = zb_W (x.1, x.2.1, x.2.2.1, d) := by
  have h1 : (zr_W 0 d ++ zr_W 3 x.1.2.1).map (zw_rE [67, 68, 69, 5, 6, 7]) = zr_W 67 d ++ zr_W 5 x.1.2.1 := rfl
  rw [h1]
  refine (zw_back_app [67, 68, 69] [5, 6, 7] (zr_W 67 d) (zr_W 5 x.1.2.1) _ rfl).trans ?_
  have h2 : zw_back (zb_W x) [5, 6, 7] (zr_W 5 x.1.2.1) = zb_W x := rfl
  rw [h2]
  exact zb_upR x d
set_option maxHeartbeats 8000000 in
theorem zb_movesGive {l : Launch} (hl : l.stackTraces = false) (D : va_G) (dA : Nat → ClassId) (x : zb_D) (T : zb_T) (hR : zb_R T x) (hI : zp_I T.1) : zw_Sp l D dA yX4_movesGiveAsking wsX4_movesGiveAsking 5 0 0 [.ref 0] (zb_W x)
    (fun r w => r = some (.int 1) ∧ ∃ x', zb_R T x' ∧ w = zb_W x') (fun _ _ => False) := by
  refine zw_start hl (by decide) rfl rfl (Nat.le_of_ble_eq_true rfl) ?_
  intro pr e s m args below meth c ad A hA B
  obtain ⟨S, hist, t9⟩ := T
  obtain ⟨g, q, t, d⟩ := x
  obtain ⟨h1, h2, h3, h4, h5⟩ := hR
  obtain ⟨C, Al, mo, by9⟩ := S
  obtain ⟨hRC, hRA, hmo⟩ := h1
  have hJ := hI.1
  have hC12 : C.length ≤ 12 := hJ.l12
  have hA12 : Al.length ≤ 12 := hJ.a12
  have hth := zl_theorem (C := C) (A := Al) hC12 hJ.2.2.2.2.2.2.1 hJ.2.2.2.2.2.1
  have hst := zl_stay_le C Al (-1)
  refine zs_aload_n B dX4_movesGiveAsking_0 (i := 0) rfl rfl ?_
  refine zs_get B fX4_movesGiveAsking_33 rfl rfl dX4_movesGiveAsking_1 ?_
  refine zs_aload_n B dX4_movesGiveAsking_4 (i := 0) rfl rfl ?_
  refine zs_get B fX4_movesGiveAsking_10 rfl rfl dX4_movesGiveAsking_5 ?_
  refine zs_getN B fX4_movesGiveAsking_69 rfl rfl dX4_movesGiveAsking_8 ?_
  refine zs_callV (n := 1) [67, 68, 69, 2, 3, 4] B (zr_become hl D dA g.1 d C hRC) gX4_movesGiveAsking_X2_become rfl ⟨rfl, by decide, by decide, by decide +kernel⟩ rfl (by rfl) rfl rfl rfl (by rfl) ⟨(by exact Nat.le_of_ble_eq_true rfl), (by exact Nat.le_of_ble_eq_true rfl)⟩ (by exact Nat.le_of_ble_eq_true rfl) ⟨(by exact Nat.le_of_ble_eq_true rfl), (by exact Nat.le_of_ble_eq_true rfl)⟩ dX4_movesGiveAsking_11 (by rintro v w ⟨rfl, d9, h9, rfl⟩; rfl) (fun _ _ h => h.elim) (fun _ _ h => h.elim) ?_
  rintro r w ⟨rfl, d1, hd1, rfl⟩
  refine zs_eq (wl' := zb_W (g, q, t, d1)) (st' := []) (zb_upRC (g, q, t, d) d1) rfl rfl rfl ?_
  refine zs_aload_n B dX4_movesGiveAsking_14 (i := 0) rfl rfl ?_
  refine zs_get B fX4_movesGiveAsking_10 rfl rfl dX4_movesGiveAsking_15 ?_
  refine zs_callV (n := 0) [1, 2, 3, 4, 5, 6, 7] B (zp_staying hl D dA g (C, Al, mo, by9) ⟨hRC, hRA, hmo⟩) gX4_movesGiveAsking_X0_staying rfl ⟨rfl, by decide, by decide, by decide +kernel⟩ rfl (by rfl) rfl rfl rfl (by rfl) ⟨(by exact Nat.le_of_ble_eq_true rfl), (by exact Nat.le_of_ble_eq_true rfl)⟩ (by exact Nat.le_of_ble_eq_true rfl) ⟨(by exact Nat.le_of_ble_eq_true rfl), (by exact Nat.le_of_ble_eq_true rfl)⟩ dX4_movesGiveAsking_18 (by rintro v w ⟨rfl, rfl⟩; rfl) (fun _ _ h => h.elim) (fun _ _ h => h.elim) ?_
  rintro r w ⟨rfl, rfl⟩
  refine zs_eq (wl' := zb_W (g, q, t, d1)) (st' := [.int (nI (zl_stay C Al (-1)))]) (zb_upP (g, q, t, d1) g) rfl rfl rfl ?_
  refine zs_istore_n B dX4_movesGiveAsking_21 (i := 1) rfl (by decide) rfl ?_
  generalize zl_stay C Al (-1) = j at hth hst ⊢
  obtain ⟨L, hL⟩ : ∃ L, L = C := ⟨C, rfl⟩
  rw [← hL] at hd1
  have hthL : zl_play L (Al.drop j) = Al := by rw [hL]; exact hth
  clear hL hth
  obtain ⟨k, hk⟩ : ∃ k, k + j = Al.length := ⟨Al.length - j, by omega⟩
  clear hst
  induction k generalizing j L d1 with
  | zero =>
    refine zs_iload_n B dX4_movesGiveAsking_22 (i := 1) rfl rfl ?_
    refine zs_aload_n B dX4_movesGiveAsking_23 (i := 0) rfl rfl ?_
    refine zs_get B fX4_movesGiveAsking_10 rfl rfl dX4_movesGiveAsking_24 ?_
    refine zs_getN B fX4_movesGiveAsking_170 rfl rfl dX4_movesGiveAsking_27 ?_
    refine zs_callV (n := 0) [5, 6, 7] B (zr_count hl D dA g.2.1) gX4_movesGiveAsking_X2_count rfl ⟨rfl, by decide, by decide, by decide +kernel⟩ rfl (by rfl) rfl rfl rfl (by rfl) ⟨(by exact Nat.le_of_ble_eq_true rfl), (by exact Nat.le_of_ble_eq_true rfl)⟩ (by exact Nat.le_of_ble_eq_true rfl) ⟨(by exact Nat.le_of_ble_eq_true rfl), (by exact Nat.le_of_ble_eq_true rfl)⟩ dX4_movesGiveAsking_30 (by rintro v w ⟨rfl, rfl⟩; rfl) (fun _ _ h => h.elim) (fun _ _ h => h.elim) ?_
    rintro r w ⟨rfl, rfl⟩
    refine zs_eq (wl' := zb_W (g, q, t, d1)) (st' := [.int (nI Al.length), .int (nI j)]) (zb_upA (g, q, t, d1) g.2.1) rfl (by rw [show Al.length = g.2.1.1 from hRA.1.symm]; rfl) rfl ?_
    refine zs_icmp_ge (tgt := 67) B dX4_movesGiveAsking_33 (by decide) (fun h => ?_) (fun h => absurd (nI_le (show Al.length ≤ j by omega) (by omega)) h)
    rw [List.drop_eq_nil_of_le (by omega)] at hthL
    have hthL : L = Al := hthL
    rw [hthL] at hd1
    refine zs_aload_n B dX4_movesGiveAsking_67 (i := 0) rfl rfl ?_
    refine zs_get B fX4_movesGiveAsking_33 rfl rfl dX4_movesGiveAsking_68 ?_
    refine zs_aload_n B dX4_movesGiveAsking_71 (i := 0) rfl rfl ?_
    refine zs_get B fX4_movesGiveAsking_10 rfl rfl dX4_movesGiveAsking_72 ?_
    refine zs_getN B fX4_movesGiveAsking_170 rfl rfl dX4_movesGiveAsking_75 ?_
    refine zs_callV (n := 1) [67, 68, 69, 5, 6, 7] B (zr_sameAs hl D dA d1 g.2.1 Al hd1 hRA) gX4_movesGiveAsking_X2_sameAs rfl ⟨rfl, by decide, by decide, by decide +kernel⟩ rfl (by rfl) rfl rfl rfl (by rfl) ⟨(by exact Nat.le_of_ble_eq_true rfl), (by exact Nat.le_of_ble_eq_true rfl)⟩ (by exact Nat.le_of_ble_eq_true rfl) ⟨(by exact Nat.le_of_ble_eq_true rfl), (by exact Nat.le_of_ble_eq_true rfl)⟩ dX4_movesGiveAsking_78 (by rintro v w ⟨rfl, rfl⟩; rfl) (fun _ _ h => h.elim) (fun _ _ h => h.elim) ?_
    rintro r w ⟨rfl, rfl⟩
    refine zs_eq (wl' := zb_W (g, q, t, d1)) (st' := [.int 1]) (zb_upRA (g, q, t, d1) d1) rfl rfl rfl ?_
    exact zs_zret hA B rfl rfl (by decide) (by decide) ⟨rfl, (g, q, t, d1), ⟨⟨hRC, hRA, hmo⟩, h2, h3, h4, h5⟩, rfl⟩ dX4_movesGiveAsking_81
  | succ k ih =>
    obtain ⟨r0, hr0, -, -⟩ := hRA.at (i := j) (by rw [hRA.1]; show j < Al.length; omega)
    have hr0 : Al[j]? = some r0 := hr0
    refine zs_iload_n B dX4_movesGiveAsking_22 (i := 1) rfl rfl ?_
    refine zs_aload_n B dX4_movesGiveAsking_23 (i := 0) rfl rfl ?_
    refine zs_get B fX4_movesGiveAsking_10 rfl rfl dX4_movesGiveAsking_24 ?_
    refine zs_getN B fX4_movesGiveAsking_170 rfl rfl dX4_movesGiveAsking_27 ?_
    refine zs_callV (n := 0) [5, 6, 7] B (zr_count hl D dA g.2.1) gX4_movesGiveAsking_X2_count rfl ⟨rfl, by decide, by decide, by decide +kernel⟩ rfl (by rfl) rfl rfl rfl (by rfl) ⟨(by exact Nat.le_of_ble_eq_true rfl), (by exact Nat.le_of_ble_eq_true rfl)⟩ (by exact Nat.le_of_ble_eq_true rfl) ⟨(by exact Nat.le_of_ble_eq_true rfl), (by exact Nat.le_of_ble_eq_true rfl)⟩ dX4_movesGiveAsking_30 (by rintro v w ⟨rfl, rfl⟩; rfl) (fun _ _ h => h.elim) (fun _ _ h => h.elim) ?_
    rintro r w ⟨rfl, rfl⟩
    refine zs_eq (wl' := zb_W (g, q, t, d1)) (st' := [.int (nI Al.length), .int (nI j)]) (zb_upA (g, q, t, d1) g.2.1) rfl (by rw [show Al.length = g.2.1.1 from hRA.1.symm]; rfl) rfl ?_
    refine zs_icmp_ge (tgt := 67) B dX4_movesGiveAsking_33 (by decide) (fun h => absurd ((nI_leI (by omega) (by omega)).mp h) (by omega)) (fun h => ?_)
    refine zs_aload_n B dX4_movesGiveAsking_36 (i := 0) rfl rfl ?_
    refine zs_get B fX4_movesGiveAsking_33 rfl rfl dX4_movesGiveAsking_37 ?_
    refine zs_aload_n B dX4_movesGiveAsking_40 (i := 0) rfl rfl ?_
    refine zs_get B fX4_movesGiveAsking_33 rfl rfl dX4_movesGiveAsking_41 ?_
    refine zs_aload_n B dX4_movesGiveAsking_44 (i := 0) rfl rfl ?_
    refine zs_get B fX4_movesGiveAsking_10 rfl rfl dX4_movesGiveAsking_45 ?_
    refine zs_getN B fX4_movesGiveAsking_170 rfl rfl dX4_movesGiveAsking_48 ?_
    refine zs_iload_n B dX4_movesGiveAsking_51 (i := 1) rfl rfl ?_
    refine zs_callV (n := 1) [5, 6, 7] B (zr_keyIn hl D dA g.2.1 Al hRA (nI j)) gX4_movesGiveAsking_X2_keyIn rfl ⟨rfl, by decide, by decide, by decide +kernel⟩ rfl (by rfl) rfl rfl rfl (by rfl) ⟨(by exact Nat.le_of_ble_eq_true rfl), (by exact Nat.le_of_ble_eq_true rfl)⟩ (by exact Nat.le_of_ble_eq_true rfl) ⟨(by exact Nat.le_of_ble_eq_true rfl), (by exact Nat.le_of_ble_eq_true rfl)⟩ dX4_movesGiveAsking_52 (by rintro v w ⟨rfl, rfl⟩; rfl) (fun _ _ h => h.elim) (fun _ _ h => h.elim) ?_
    rintro r9 w ⟨rfl, rfl⟩
    rw [zl_key_at hA12 hr0]
    refine zs_eq (wl' := zb_W (g, q, t, d1)) (st' := [.int r0.1, .ref 67, .ref 67]) (zb_upA (g, q, t, d1) g.2.1) rfl rfl rfl ?_
    refine zs_callV (n := 1) [67, 68, 69] B (zr_find hl D dA d1 L hd1 r0.1) gX4_movesGiveAsking_X2_find rfl ⟨rfl, by decide, by decide, by decide +kernel⟩ rfl (by rfl) rfl rfl rfl (by rfl) ⟨(by exact Nat.le_of_ble_eq_true rfl), (by exact Nat.le_of_ble_eq_true rfl)⟩ (by exact Nat.le_of_ble_eq_true rfl) ⟨(by exact Nat.le_of_ble_eq_true rfl), (by exact Nat.le_of_ble_eq_true rfl)⟩ dX4_movesGiveAsking_55 (by rintro v w ⟨rfl, rfl⟩; rfl) (fun _ _ h => h.elim) (fun _ _ h => h.elim) ?_
    rintro r9 w ⟨rfl, rfl⟩
    refine zs_eq (wl' := zb_W (g, q, t, d1)) (st' := [.int (zl_fi L r0.1), .ref 67]) (zb_upR (g, q, t, d1) d1) rfl rfl rfl ?_
    refine zs_callV (n := 1) [67, 68, 69] B (zr_putLast hl D dA d1 L hd1 (zl_fi L r0.1)) gX4_movesGiveAsking_X2_putLast rfl ⟨rfl, by decide, by decide, by decide +kernel⟩ rfl (by rfl) rfl rfl rfl (by rfl) ⟨(by exact Nat.le_of_ble_eq_true rfl), (by exact Nat.le_of_ble_eq_true rfl)⟩ (by exact Nat.le_of_ble_eq_true rfl) ⟨(by exact Nat.le_of_ble_eq_true rfl), (by exact Nat.le_of_ble_eq_true rfl)⟩ dX4_movesGiveAsking_58 (by rintro v w ⟨rfl, d9, h9, rfl⟩; rfl) (fun _ _ h => h.elim) (fun _ _ h => h.elim) ?_
    rintro r9 w ⟨rfl, d2, hd2, rfl⟩
    refine zs_eq (wl' := zb_W (g, q, t, d2)) (st' := []) (zb_upR (g, q, t, d1) d2) rfl rfl rfl ?_
    refine zs_iinc B dX4_movesGiveAsking_61 (i := 1) rfl (nI_1 j) (by decide) rfl ?_
    refine zs_goto (tgt := 22) B dX4_movesGiveAsking_64 (by decide) ?_
    rw [zl_drop_s hr0] at hthL
    exact ih d2 (j + 1) (zl_last L (zf_ix (zl_fi L r0.1) L.length)) hd2 hthL (by omega)
set_option maxHeartbeats 8000000 in
theorem zb_isTrue {l : Launch} (hl : l.stackTraces = false) (D : va_G) (dA : Nat → ClassId) (x : zb_D) (T : zb_T) (hR : zb_R T x) (hI : zp_I T.1) : zw_Sp l D dA yX4_isTrue wsX4_isTrue 7 0 0 [.ref 0] (zb_W x)
    (fun r w => r = some (.int 1) ∧ ∃ x', zb_R T x' ∧ w = zb_W x') (fun _ _ => False) := by
  refine zw_start hl (by decide) rfl rfl (Nat.le_of_ble_eq_true rfl) ?_
  intro pr e s m args below meth c ad A hA B
  have hJ := hI.1
  have h2 : x.1.1.1 = T.1.1.length := hR.1.1.1
  refine zs_aload_n B dX4_isTrue_0 (i := 0) rfl rfl ?_
  refine zs_get B fX4_isTrue_10 rfl rfl dX4_isTrue_1 ?_
  refine zs_getN B fX4_isTrue_69 rfl rfl dX4_isTrue_4 ?_
  refine zs_callV (n := 0) [2, 3, 4] B (zr_tellsAlike hl D dA x.1.1 T.1.1 hR.1.1 hJ.2.2.2.2.2.2.1) gX4_isTrue_X2_tellsAlike rfl ⟨rfl, by decide, by decide, by decide +kernel⟩ rfl (by rfl) rfl rfl rfl (by rfl) ⟨(by exact Nat.le_of_ble_eq_true rfl), (by exact Nat.le_of_ble_eq_true rfl)⟩ (by exact Nat.le_of_ble_eq_true rfl) ⟨(by exact Nat.le_of_ble_eq_true rfl), (by exact Nat.le_of_ble_eq_true rfl)⟩ dX4_isTrue_7 (by rintro v w ⟨rfl, rfl⟩; rfl) (fun _ _ h => h.elim) (fun _ _ h => h.elim) ?_
  rintro r w ⟨rfl, rfl⟩
  refine zs_eq (wl' := zb_W x) (st' := [.int 1]) (zb_upC x x.1.1) rfl rfl rfl ?_
  refine zs_if_eq (tgt := 97) B dX4_isTrue_10 (by decide) (fun h => absurd h (by decide)) (fun _ => ?_)
  refine zs_aload_n B dX4_isTrue_13 (i := 0) rfl rfl ?_
  refine zs_get B fX4_isTrue_10 rfl rfl dX4_isTrue_14 ?_
  refine zs_getN B fX4_isTrue_170 rfl rfl dX4_isTrue_17 ?_
  refine zs_callV (n := 0) [5, 6, 7] B (zr_tellsAlike hl D dA x.1.2.1 T.1.2.1 hR.1.2.1 hJ.nodA) gX4_isTrue_X2_tellsAlike rfl ⟨rfl, by decide, by decide, by decide +kernel⟩ rfl (by rfl) rfl rfl rfl (by rfl) ⟨(by exact Nat.le_of_ble_eq_true rfl), (by exact Nat.le_of_ble_eq_true rfl)⟩ (by exact Nat.le_of_ble_eq_true rfl) ⟨(by exact Nat.le_of_ble_eq_true rfl), (by exact Nat.le_of_ble_eq_true rfl)⟩ dX4_isTrue_20 (by rintro v w ⟨rfl, rfl⟩; rfl) (fun _ _ h => h.elim) (fun _ _ h => h.elim) ?_
  rintro r w ⟨rfl, rfl⟩
  refine zs_eq (wl' := zb_W x) (st' := [.int 1]) (zb_upA x x.1.2.1) rfl rfl rfl ?_
  refine zs_if_eq (tgt := 97) B dX4_isTrue_23 (by decide) (fun h => absurd h (by decide)) (fun _ => ?_)
  refine zs_aload_n B dX4_isTrue_26 (i := 0) rfl rfl ?_
  refine zs_get B fX4_isTrue_10 rfl rfl dX4_isTrue_27 ?_
  refine zs_getN B fX4_isTrue_69 rfl rfl dX4_isTrue_30 ?_
  refine zs_aload_n B dX4_isTrue_33 (i := 0) rfl rfl ?_
  refine zs_get B fX4_isTrue_10 rfl rfl dX4_isTrue_34 ?_
  refine zs_getN B fX4_isTrue_170 rfl rfl dX4_isTrue_37 ?_
  refine zs_callV (n := 1) [2, 3, 4, 5, 6, 7] B (zr_hasEntriesOf hl D dA x.1.1 x.1.2.1 T.1.1 T.1.2.1 hR.1.1 hR.1.2.1 hJ.2.2.2.2.2.2.1 (fun q hq => hJ.2.2.2.2.2.1.mem_iff.mpr hq)) gX4_isTrue_X2_hasEntriesOf rfl ⟨rfl, by decide, by decide, by decide +kernel⟩ rfl (by rfl) rfl rfl rfl (by rfl) ⟨(by exact Nat.le_of_ble_eq_true rfl), (by exact Nat.le_of_ble_eq_true rfl)⟩ (by exact Nat.le_of_ble_eq_true rfl) ⟨(by exact Nat.le_of_ble_eq_true rfl), (by exact Nat.le_of_ble_eq_true rfl)⟩ dX4_isTrue_40 (by rintro v w ⟨rfl, rfl⟩; rfl) (fun _ _ h => h.elim) (fun _ _ h => h.elim) ?_
  rintro r w ⟨rfl, rfl⟩
  refine zs_eq (wl' := zb_W x) (st' := [.int 1]) rfl rfl rfl rfl ?_
  refine zs_if_eq (tgt := 97) B dX4_isTrue_43 (by decide) (fun h => absurd h (by decide)) (fun _ => ?_)
  refine zs_aload_n B dX4_isTrue_46 (i := 0) rfl rfl ?_
  refine zs_get B fX4_isTrue_10 rfl rfl dX4_isTrue_47 ?_
  refine zs_getN B fX4_isTrue_170 rfl rfl dX4_isTrue_50 ?_
  refine zs_aload_n B dX4_isTrue_53 (i := 0) rfl rfl ?_
  refine zs_get B fX4_isTrue_10 rfl rfl dX4_isTrue_54 ?_
  refine zs_getN B fX4_isTrue_69 rfl rfl dX4_isTrue_57 ?_
  refine zs_callV (n := 1) [5, 6, 7, 2, 3, 4] B (zr_hasEntriesOf hl D dA x.1.2.1 x.1.1 T.1.2.1 T.1.1 hR.1.2.1 hR.1.1 hJ.nodA (fun q hq => hJ.2.2.2.2.2.1.mem_iff.mp hq)) gX4_isTrue_X2_hasEntriesOf rfl ⟨rfl, by decide, by decide, by decide +kernel⟩ rfl (by rfl) rfl rfl rfl (by rfl) ⟨(by exact Nat.le_of_ble_eq_true rfl), (by exact Nat.le_of_ble_eq_true rfl)⟩ (by exact Nat.le_of_ble_eq_true rfl) ⟨(by exact Nat.le_of_ble_eq_true rfl), (by exact Nat.le_of_ble_eq_true rfl)⟩ dX4_isTrue_60 (by rintro v w ⟨rfl, rfl⟩; rfl) (fun _ _ h => h.elim) (fun _ _ h => h.elim) ?_
  rintro r w ⟨rfl, rfl⟩
  refine zs_eq (wl' := zb_W x) (st' := [.int 1]) rfl rfl rfl rfl ?_
  refine zs_if_eq (tgt := 97) B dX4_isTrue_63 (by decide) (fun h => absurd h (by decide)) (fun _ => ?_)
  refine zs_aload_n B dX4_isTrue_66 (i := 0) rfl rfl ?_
  refine zs_get B fX4_isTrue_10 rfl rfl dX4_isTrue_67 ?_
  refine zs_getN B fX4_isTrue_69 rfl rfl dX4_isTrue_70 ?_
  refine zs_callV (n := 0) [2, 3, 4] B (zr_count hl D dA x.1.1) gX4_isTrue_X2_count rfl ⟨rfl, by decide, by decide, by decide +kernel⟩ rfl (by rfl) rfl rfl rfl (by rfl) ⟨(by exact Nat.le_of_ble_eq_true rfl), (by exact Nat.le_of_ble_eq_true rfl)⟩ (by exact Nat.le_of_ble_eq_true rfl) ⟨(by exact Nat.le_of_ble_eq_true rfl), (by exact Nat.le_of_ble_eq_true rfl)⟩ dX4_isTrue_73 (by rintro v w ⟨rfl, rfl⟩; rfl) (fun _ _ h => h.elim) (fun _ _ h => h.elim) ?_
  rintro r w ⟨rfl, rfl⟩
  refine zs_eq (wl' := zb_W x) (st' := [.int (nI T.1.1.length)]) (zb_upC x x.1.1) rfl (by rw [← h2]; rfl) rfl ?_
  refine zs_aload_n B dX4_isTrue_76 (i := 0) rfl rfl ?_
  refine zs_get B fX4_isTrue_10 rfl rfl dX4_isTrue_77 ?_
  refine zs_getN B fX4_isTrue_83 rfl rfl dX4_isTrue_80 ?_
  refine zs_icmp_gt (tgt := 97) B dX4_isTrue_83 (by decide) (fun h => ?_) (fun h => ?_)
  · exfalso
    rw [show x.1.2.2.1 = nI (zp_mm T.1) by rw [← hJ.1]; exact (congrArg Prod.fst hR.1.2.2).symm] at h
    have h12 := hJ.l12
    have h13 := hJ.2.2.1
    exact absurd h (Int32.not_lt.mpr ((nI_leI (by omega) (by omega)).mpr hI.2))
  · refine zs_aload_n B dX4_isTrue_86 (i := 0) rfl rfl ?_
    refine zs_callV0 (n := 0) B (zb_movesGive hl D dA x T hR hI) gX4_isTrue_X4_movesGiveAsking rfl ⟨rfl, by decide, by decide, by decide +kernel⟩ rfl rfl rfl (by rfl) ⟨(by exact Nat.le_of_ble_eq_true rfl), (by exact Nat.le_of_ble_eq_true rfl)⟩ (by exact Nat.le_of_ble_eq_true rfl) ⟨(by exact Nat.le_of_ble_eq_true rfl), (by exact Nat.le_of_ble_eq_true rfl)⟩ dX4_isTrue_87 (by rintro v w ⟨rfl, x9, h9, rfl⟩; rfl) (fun _ _ h => h.elim) (fun _ _ h => h.elim) ?_
    rintro r w ⟨rfl, x', hx', rfl⟩
    refine zs_eq (wl' := zb_W x') (st' := [.int 1]) rfl rfl rfl rfl ?_
    refine zs_if_eq (tgt := 97) B dX4_isTrue_90 (by decide) (fun h => absurd h (by decide)) (fun _ => ?_)
    refine zs_iconst (v := 1) B dX4_isTrue_93 (by decide) ?_
    refine zs_goto (tgt := 98) B dX4_isTrue_94 (by decide) ?_
    exact zs_zret hA B rfl rfl (by decide) (by decide) ⟨rfl, x', hx', rfl⟩ dX4_isTrue_98
