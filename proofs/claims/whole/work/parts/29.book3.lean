/-! the book's methods: the limit, the way, places, walks, moves, the past -/
theorem zb_upP2 (x : zb_D) (g : zp_D) (u : Int32) : (zb_W x).set 1 (.inr (0, [.ref 2, .ref 5, .int u, .int x.1.2.2.2])) = zb_W ((x.1.1, x.1.2.1, u, x.1.2.2.2), x.2) := rfl
theorem zb_upP3 (x : zb_D) (g : zp_D) (u : Int32) : (zb_W x).set 1 (.inr (0, [.ref 2, .ref 5, .int x.1.2.2.1, .int u])) = zb_W ((x.1.1, x.1.2.1, x.1.2.2.1, u), x.2) := rfl
def zb_in (v lo hi : Int) : Prop := lo ≤ v ∧ v ≤ hi
set_option maxHeartbeats 4000000 in
theorem zb_limit {l : Launch} (hl : l.stackTraces = false) (D : va_G) (dA : Nat → ClassId) (x : zb_D) (T : zb_T) (hR : zb_R T x) (hI : zp_I T.1) (most : Int32) : zw_Sp l D dA yX4_limit wsX4_limit 7 1 6 [.ref 0, .int most] (zb_W x)
    (fun r w => ∃ mm : Nat, 1 ≤ mm ∧ mm ≤ 12 ∧ most = nI mm ∧ r = some (.int (nI (T.1.1.length - mm))) ∧ ∃ x', zb_R (zb_set (zb_chg T) (zp_lim T.1 mm)) x' ∧ w = zb_W x') (fun E w => E = zE_a ∧ w = zb_W x ∧ ¬ (1 ≤ most.toInt ∧ most.toInt ≤ 12)) := by
  refine zw_start hl (by decide) rfl rfl (Nat.le_of_ble_eq_true rfl) ?_
  intro pr e s m args below meth c ad A hA B
  refine zs_iload_n B dX4_limit_0 (i := 1) rfl rfl ?_
  refine zs_iconst (v := 1) B dX4_limit_1 (by decide) ?_
  refine zs_icmp_lt (tgt := 11) B dX4_limit_2 (by decide) (fun h => ?_) (fun h => ?_)
  · have h' : most.toInt < 1 := Int32.lt_iff_toInt_lt.mp h
    refine zs_throw hA B (cls := zE_a) (text := "the limit is out of range") (fr := 7) rfl (by decide) (by decide +kernel) (by decide +kernel) (by decide +kernel) (by decide +kernel) (by decide +kernel) (by decide +kernel) (by decide +kernel) (by decide +kernel) dX4_limit_11 dX4_limit_14 dX4_limit_15 dX4_limit_17 dX4_limit_20 (by exact Nat.le_of_ble_eq_true rfl) (by exact Nat.le_of_ble_eq_true rfl) (by exact Nat.le_of_ble_eq_true rfl) ?_
    exact ⟨rfl, rfl, by omega⟩
  · have h' : ¬ most.toInt < 1 := fun q => h (Int32.lt_iff_toInt_lt.mpr q)
    refine zs_iload_n B dX4_limit_5 (i := 1) rfl rfl ?_
    refine zs_bipush (v := 12) B dX4_limit_6 (by decide) ?_
    refine zs_icmp_le (tgt := 21) B dX4_limit_8 (by decide) (fun h2 => ?_) (fun h2 => ?_)
    · have h3 : most.toInt ≤ 12 := Int32.le_iff_toInt_le.mp h2
      obtain ⟨mm, hmm, rfl⟩ := nI_of2 (x := most) (M := 12) (n := 12) rfl (by rw [Int32.lt_iff_toInt_lt, Int32.toInt_zero]; omega) h2
      rw [nI_toInt (by omega)] at h' h3
      refine zs_aload_n B dX4_limit_21 (i := 0) rfl rfl ?_
      refine zs_callV0 (n := 0) B (zb_beginChange hl D dA x T hR) gX4_limit_X4_beginChange rfl ⟨rfl, by decide, by decide, by decide +kernel⟩ rfl rfl rfl (by rfl) ⟨(by exact Nat.le_of_ble_eq_true rfl), (by exact Nat.le_of_ble_eq_true rfl)⟩ (by exact Nat.le_of_ble_eq_true rfl) ⟨(by exact Nat.le_of_ble_eq_true rfl), (by exact Nat.le_of_ble_eq_true rfl)⟩ dX4_limit_22 (by rintro v w ⟨rfl, x9, h9, rfl⟩; rfl) (fun _ _ h => h.elim) (fun _ _ h => h.elim) ?_
      rintro r w ⟨rfl, x1, hR1, rfl⟩
      refine zs_aload_n B dX4_limit_25 (i := 0) rfl rfl ?_
      refine zs_get B fX4_limit_10 rfl rfl dX4_limit_26 ?_
      refine zs_iload_n B dX4_limit_29 (i := 1) rfl rfl ?_
      refine zs_putN B (wX4_limit_83 rfl rfl) rfl (Nat.le_of_ble_eq_true rfl) dX4_limit_30 ?_
      obtain ⟨x2, hx2⟩ : ∃ x2 : zb_D, x2 = ((x1.1.1, x1.1.2.1, nI mm, x1.1.2.2.2), x1.2) := ⟨_, rfl⟩
      refine zs_eq (wl' := zb_W x2) (st' := []) (by rw [hx2]; rfl) rfl rfl rfl ?_
      have hR2 : zp_R (T.1.1, T.1.2.1, nI mm, T.1.2.2.2) x2.1 := by
        rw [hx2]
        exact ⟨hR1.1.1, hR1.1.2.1, by show (nI mm, T.1.2.2.2) = (nI mm, x1.1.2.2.2); rw [show x1.1.2.2.2 = T.1.2.2.2 from (congrArg Prod.snd hR1.1.2.2).symm]⟩
      refine zs_aload_n B dX4_limit_33 (i := 0) rfl rfl ?_
      refine zs_get B fX4_limit_10 rfl rfl dX4_limit_34 ?_
      refine zs_callV (n := 0) [1, 2, 3, 4, 5, 6, 7] B (zp_dropWhatIsOver hl D dA x2.1 _ hR2 mm rfl hmm) gX4_limit_X0_dropWhatIsOver rfl ⟨rfl, by decide, by decide, by decide +kernel⟩ rfl (by rfl) rfl rfl rfl (by rfl) ⟨(by exact Nat.le_of_ble_eq_true rfl), (by exact Nat.le_of_ble_eq_true rfl)⟩ (by exact Nat.le_of_ble_eq_true rfl) ⟨(by exact Nat.le_of_ble_eq_true rfl), (by exact Nat.le_of_ble_eq_true rfl)⟩ dX4_limit_37 (by rintro v w ⟨rfl, d9, h9, rfl⟩; rfl) (fun _ _ h => h.elim) (fun _ _ h => h.elim) ?_
      rintro r w ⟨rfl, g1, hg1, rfl⟩
      refine zs_eq (wl' := zb_W (g1, x2.2)) (st' := [.int (nI (T.1.1.length - mm))]) (zb_upP x2 g1) rfl rfl rfl ?_
      refine zs_zret hA B rfl rfl (by decide) (by decide) ⟨mm, by omega, hmm, rfl, rfl, _, ?_, rfl⟩ dX4_limit_40
      rw [hx2]
      refine hR1.setP (S := zp_lim T.1 mm) hg1 ?_
      show (zp_drops (T.1.1, T.1.2.1, nI mm, T.1.2.2.2) (T.1.1.length - mm)).2.2.2 = T.1.2.2.2
      rw [zp_drops_mm]
    · have h3 : ¬ most.toInt ≤ 12 := fun q => h2 (Int32.le_iff_toInt_le.mpr q)
      refine zs_throw hA B (cls := zE_a) (text := "the limit is out of range") (fr := 7) rfl (by decide) (by decide +kernel) (by decide +kernel) (by decide +kernel) (by decide +kernel) (by decide +kernel) (by decide +kernel) (by decide +kernel) (by decide +kernel) dX4_limit_11 dX4_limit_14 dX4_limit_15 dX4_limit_17 dX4_limit_20 (by exact Nat.le_of_ble_eq_true rfl) (by exact Nat.le_of_ble_eq_true rfl) (by exact Nat.le_of_ble_eq_true rfl) ?_
      exact ⟨rfl, rfl, by omega⟩
theorem zb_o_nar {o : Int32} (h : o = 99 ∨ o = 97) : narrow .char (.int o) = .int o ∧ fits .char (.int o) = true := by
  rcases h with rfl | rfl <;> exact ⟨by decide, by decide⟩
set_option maxHeartbeats 4000000 in
theorem zb_way {l : Launch} (hl : l.stackTraces = false) (D : va_G) (dA : Nat → ClassId) (x : zb_D) (T : zb_T) (hR : zb_R T x) (o : Int32) : zw_Sp l D dA yX4_way wsX4_way 7 1 6 [.ref 0, .int o] (zb_W x)
    (fun r w => (o = 99 ∨ o = 97) ∧ r = some (.int T.1.2.2.2) ∧ ∃ x', zb_R (zb_set (zb_chg T) (T.1.1, T.1.2.1, T.1.2.2.1, o)) x' ∧ w = zb_W x') (fun E w => E = zE_a ∧ w = zb_W x ∧ ¬ (o = 99 ∨ o = 97)) := by
  refine zw_start hl (by decide) rfl rfl (Nat.le_of_ble_eq_true rfl) ?_
  intro pr e s m args below meth c ad A hA B
  have hby : x.1.2.2.2 = T.1.2.2.2 := (congrArg Prod.snd hR.1.2.2).symm
  have hn := hR.2.1.1
  refine zs_aload_n B dX4_way_0 (i := 0) rfl rfl ?_
  refine zs_iload_n B dX4_way_1 (i := 1) rfl rfl ?_
  refine zs_callV0 (n := 1) B (zb_refuseOrder hl D dA x o) gX4_way_X4_refuseUnknownOrder rfl ⟨rfl, by decide, by decide, by decide +kernel⟩ rfl rfl rfl (by rfl) ⟨(by exact Nat.le_of_ble_eq_true rfl), (by exact Nat.le_of_ble_eq_true rfl)⟩ (by exact Nat.le_of_ble_eq_true rfl) ⟨(by exact Nat.le_of_ble_eq_true rfl), (by exact Nat.le_of_ble_eq_true rfl)⟩ dX4_way_2 (by rintro v w ⟨rfl, rfl, -⟩; rfl) (by rintro E w ⟨rfl, rfl, -⟩; rfl) (by rintro E w ⟨rfl, rfl, hx9⟩; exact zs_xout hA B (by exact Nat.le_of_ble_eq_true rfl) (by exact Nat.le_of_ble_eq_true rfl) ⟨rfl, rfl, hx9⟩) ?_
  rintro r w ⟨rfl, rfl, ho⟩
  refine zs_aload_n B dX4_way_5 (i := 0) rfl rfl ?_
  refine zs_get B fX4_way_10 rfl rfl dX4_way_6 ?_
  refine zs_getN B fX4_way_94 rfl rfl dX4_way_9 ?_
  refine zs_istore_n B dX4_way_12 (i := 2) rfl (by decide) rfl ?_
  refine zs_aload_n B dX4_way_13 (i := 0) rfl rfl ?_
  refine zs_callV0 (n := 0) B (zb_beginChange hl D dA x T hR) gX4_way_X4_beginChange rfl ⟨rfl, by decide, by decide, by decide +kernel⟩ rfl rfl rfl (by rfl) ⟨(by exact Nat.le_of_ble_eq_true rfl), (by exact Nat.le_of_ble_eq_true rfl)⟩ (by exact Nat.le_of_ble_eq_true rfl) ⟨(by exact Nat.le_of_ble_eq_true rfl), (by exact Nat.le_of_ble_eq_true rfl)⟩ dX4_way_14 (by rintro v w ⟨rfl, x9, h9, rfl⟩; rfl) (fun _ _ h => h.elim) (fun _ _ h => h.elim) ?_
  rintro r w ⟨rfl, x1, hR1, rfl⟩
  refine zs_aload_n B dX4_way_17 (i := 0) rfl rfl ?_
  refine zs_get B fX4_way_10 rfl rfl dX4_way_18 ?_
  refine zs_iload_n B dX4_way_21 (i := 1) rfl rfl ?_
  refine zs_putN B (wX4_way_94 (zb_o_nar ho).1 (zb_o_nar ho).2) rfl (Nat.le_of_ble_eq_true rfl) dX4_way_22 ?_
  refine zs_iload_n B dX4_way_25 (i := 2) rfl rfl ?_
  refine zs_zret hA B rfl hn (by decide) (by decide) ⟨ho, by rw [hby], ((x1.1.1, x1.1.2.1, x1.1.2.2.1, o), x1.2), ⟨⟨hR1.1.1, hR1.1.2.1, ?_⟩, zb_o_nar ho, hR1.2.2⟩, rfl⟩ dX4_way_26
  show (T.1.2.2.1, o) = (x1.1.2.2.1, o)
  rw [show x1.1.2.2.1 = T.1.2.2.1 from (congrArg Prod.fst hR1.1.2.2).symm]
/-- the row of an order -/
theorem zb_row_len {T : zb_T} (hI : zp_I T.1) (o : Int32) : (zp_row T.1 o).length = T.1.1.length := zp_row_len hI.1 o
set_option maxHeartbeats 4000000 in
theorem zb_keyAt {l : Launch} (hl : l.stackTraces = false) (D : va_G) (dA : Nat → ClassId) (x : zb_D) (T : zb_T) (hR : zb_R T x) (o q : Int32) : zw_Sp l D dA yX4_keyAt wsX4_keyAt 7 2 12 [.ref 0, .int o, .int q] (zb_W x)
    (fun r w => r = some (.int (zl_key (zp_row T.1 o) (zf_ix q (zp_row T.1 o).length))) ∧ w = zb_W x ∧ (o = 99 ∨ o = 97) ∧ (zf_ix q T.1.1.length).isSome = true) (fun E w => w = zb_W x ∧ ((E = zE_a ∧ ¬ (o = 99 ∨ o = 97)) ∨ (E = zE_i ∧ (o = 99 ∨ o = 97) ∧ ¬ (zf_ix q T.1.1.length).isSome = true))) := by
  refine zw_start hl (by decide) rfl rfl (Nat.le_of_ble_eq_true rfl) ?_
  intro pr e s m args below meth c ad A hA B
  refine zs_aload_n B dX4_keyAt_0 (i := 0) rfl rfl ?_
  refine zs_iload_n B dX4_keyAt_1 (i := 1) rfl rfl ?_
  refine zs_callV0 (n := 1) B (zb_refuseOrder hl D dA x o) gX4_keyAt_X4_refuseUnknownOrder rfl ⟨rfl, by decide, by decide, by decide +kernel⟩ rfl rfl rfl (by rfl) ⟨(by exact Nat.le_of_ble_eq_true rfl), (by exact Nat.le_of_ble_eq_true rfl)⟩ (by exact Nat.le_of_ble_eq_true rfl) ⟨(by exact Nat.le_of_ble_eq_true rfl), (by exact Nat.le_of_ble_eq_true rfl)⟩ dX4_keyAt_2 (by rintro v w ⟨rfl, rfl, -⟩; rfl) (by rintro E w ⟨rfl, rfl, -⟩; rfl) (by rintro E w ⟨rfl, rfl, hx9⟩; exact zs_xout hA B (by exact Nat.le_of_ble_eq_true rfl) (by exact Nat.le_of_ble_eq_true rfl) ⟨rfl, Or.inl ⟨rfl, hx9⟩⟩) ?_
  rintro r w ⟨rfl, rfl, ho⟩
  refine zs_aload_n B dX4_keyAt_5 (i := 0) rfl rfl ?_
  refine zs_iload_n B dX4_keyAt_6 (i := 2) rfl rfl ?_
  refine zs_callV0 (n := 1) B (zb_refusePlace hl D dA x T hR q) gX4_keyAt_X4_refuseUnknownPlace rfl ⟨rfl, by decide, by decide, by decide +kernel⟩ rfl rfl rfl (by rfl) ⟨(by exact Nat.le_of_ble_eq_true rfl), (by exact Nat.le_of_ble_eq_true rfl)⟩ (by exact Nat.le_of_ble_eq_true rfl) ⟨(by exact Nat.le_of_ble_eq_true rfl), (by exact Nat.le_of_ble_eq_true rfl)⟩ dX4_keyAt_7 (by rintro v w ⟨rfl, rfl, -⟩; rfl) (by rintro E w ⟨rfl, rfl, -⟩; rfl) (by rintro E w ⟨rfl, rfl, hx9⟩; exact zs_xout hA B (by exact Nat.le_of_ble_eq_true rfl) (by exact Nat.le_of_ble_eq_true rfl) ⟨rfl, Or.inr ⟨rfl, ho, hx9⟩⟩) ?_
  rintro r w ⟨rfl, rfl, hq⟩
  refine zs_aload_n B dX4_keyAt_10 (i := 0) rfl rfl ?_
  refine zs_get B fX4_keyAt_10 rfl rfl dX4_keyAt_11 ?_
  refine zs_iload_n B dX4_keyAt_14 (i := 1) rfl rfl ?_
  refine zs_callV (n := 1) [1, 2, 3, 4, 5, 6, 7] B (zp_rowM hl D dA x.1 o) gX4_keyAt_X0_row rfl ⟨rfl, by decide, by decide, by decide +kernel⟩ rfl (by rfl) rfl rfl rfl (by rfl) ⟨(by exact Nat.le_of_ble_eq_true rfl), (by exact Nat.le_of_ble_eq_true rfl)⟩ (by exact Nat.le_of_ble_eq_true rfl) ⟨(by exact Nat.le_of_ble_eq_true rfl), (by exact Nat.le_of_ble_eq_true rfl)⟩ dX4_keyAt_15 (by rintro v w ⟨rfl, rfl⟩; rfl) (fun _ _ h => h.elim) (fun _ _ h => h.elim) ?_
  rintro r w ⟨rfl, rfl⟩
  by_cases h9 : o = 97
  · rw [if_pos h9]
    refine zs_eq (wl' := zb_W x) (st' := [.ref 5]) (zb_upP x x.1) rfl rfl rfl ?_
    refine zs_iload_n B dX4_keyAt_18 (i := 2) rfl rfl ?_
    refine zs_callV (n := 1) [5, 6, 7] B (zr_keyIn hl D dA x.1.2.1 T.1.2.1 hR.1.2.1 q) gX4_keyAt_X2_keyIn rfl ⟨rfl, by decide, by decide, by decide +kernel⟩ rfl (by rfl) rfl rfl rfl (by rfl) ⟨(by exact Nat.le_of_ble_eq_true rfl), (by exact Nat.le_of_ble_eq_true rfl)⟩ (by exact Nat.le_of_ble_eq_true rfl) ⟨(by exact Nat.le_of_ble_eq_true rfl), (by exact Nat.le_of_ble_eq_true rfl)⟩ dX4_keyAt_19 (by rintro v w ⟨rfl, rfl⟩; rfl) (fun _ _ h => h.elim) (fun _ _ h => h.elim) ?_
    rintro r w ⟨rfl, rfl⟩
    refine zs_eq (wl' := zb_W x) (st' := [.int (zl_key T.1.2.1 (zf_ix q T.1.2.1.length))]) (zb_upA x x.1.2.1) rfl rfl rfl ?_
    refine zs_zret hA B rfl rfl (by decide) (by decide) ⟨?_, rfl, ho, hq⟩ dX4_keyAt_22
    unfold zp_row
    rw [if_pos h9]
  · rw [if_neg h9]
    refine zs_eq (wl' := zb_W x) (st' := [.ref 2]) (zb_upP x x.1) rfl rfl rfl ?_
    refine zs_iload_n B dX4_keyAt_18 (i := 2) rfl rfl ?_
    refine zs_callV (n := 1) [2, 3, 4] B (zr_keyIn hl D dA x.1.1 T.1.1 hR.1.1 q) gX4_keyAt_X2_keyIn rfl ⟨rfl, by decide, by decide, by decide +kernel⟩ rfl (by rfl) rfl rfl rfl (by rfl) ⟨(by exact Nat.le_of_ble_eq_true rfl), (by exact Nat.le_of_ble_eq_true rfl)⟩ (by exact Nat.le_of_ble_eq_true rfl) ⟨(by exact Nat.le_of_ble_eq_true rfl), (by exact Nat.le_of_ble_eq_true rfl)⟩ dX4_keyAt_19 (by rintro v w ⟨rfl, rfl⟩; rfl) (fun _ _ h => h.elim) (fun _ _ h => h.elim) ?_
    rintro r w ⟨rfl, rfl⟩
    refine zs_eq (wl' := zb_W x) (st' := [.int (zl_key T.1.1 (zf_ix q T.1.1.length))]) (zb_upC x x.1.1) rfl rfl rfl ?_
    refine zs_zret hA B rfl rfl (by decide) (by decide) ⟨?_, rfl, ho, hq⟩ dX4_keyAt_22
    unfold zp_row
    rw [if_neg h9]
set_option maxHeartbeats 4000000 in
theorem zb_placeOf {l : Launch} (hl : l.stackTraces = false) (D : va_G) (dA : Nat → ClassId) (x : zb_D) (T : zb_T) (hR : zb_R T x) (o key : Int32) : zw_Sp l D dA yX4_placeOf wsX4_placeOf 7 2 12 [.ref 0, .int o, .int key] (zb_W x)
    (fun r w => r = some (.int (zl_fi (zp_row T.1 o) key)) ∧ w = zb_W x ∧ (o = 99 ∨ o = 97) ∧ zb_has T key) (fun E w => w = zb_W x ∧ ((E = zE_a ∧ ¬ (o = 99 ∨ o = 97)) ∨ (E = zE_n ∧ (o = 99 ∨ o = 97) ∧ ¬ zb_has T key))) := by
  refine zw_start hl (by decide) rfl rfl (Nat.le_of_ble_eq_true rfl) ?_
  intro pr e s m args below meth c ad A hA B
  refine zs_aload_n B dX4_placeOf_0 (i := 0) rfl rfl ?_
  refine zs_iload_n B dX4_placeOf_1 (i := 1) rfl rfl ?_
  refine zs_callV0 (n := 1) B (zb_refuseOrder hl D dA x o) gX4_placeOf_X4_refuseUnknownOrder rfl ⟨rfl, by decide, by decide, by decide +kernel⟩ rfl rfl rfl (by rfl) ⟨(by exact Nat.le_of_ble_eq_true rfl), (by exact Nat.le_of_ble_eq_true rfl)⟩ (by exact Nat.le_of_ble_eq_true rfl) ⟨(by exact Nat.le_of_ble_eq_true rfl), (by exact Nat.le_of_ble_eq_true rfl)⟩ dX4_placeOf_2 (by rintro v w ⟨rfl, rfl, -⟩; rfl) (by rintro E w ⟨rfl, rfl, -⟩; rfl) (by rintro E w ⟨rfl, rfl, hx9⟩; exact zs_xout hA B (by exact Nat.le_of_ble_eq_true rfl) (by exact Nat.le_of_ble_eq_true rfl) ⟨rfl, Or.inl ⟨rfl, hx9⟩⟩) ?_
  rintro r w ⟨rfl, rfl, ho⟩
  refine zs_aload_n B dX4_placeOf_5 (i := 0) rfl rfl ?_
  refine zs_iload_n B dX4_placeOf_6 (i := 2) rfl rfl ?_
  refine zs_callV0 (n := 1) B (zb_refuseAbsent hl D dA x T hR key) gX4_placeOf_X4_refuseAbsentKey rfl ⟨rfl, by decide, by decide, by decide +kernel⟩ rfl rfl rfl (by rfl) ⟨(by exact Nat.le_of_ble_eq_true rfl), (by exact Nat.le_of_ble_eq_true rfl)⟩ (by exact Nat.le_of_ble_eq_true rfl) ⟨(by exact Nat.le_of_ble_eq_true rfl), (by exact Nat.le_of_ble_eq_true rfl)⟩ dX4_placeOf_7 (by rintro v w ⟨rfl, rfl, -⟩; rfl) (by rintro E w ⟨rfl, rfl, -⟩; rfl) (by rintro E w ⟨rfl, rfl, hx9⟩; exact zs_xout hA B (by exact Nat.le_of_ble_eq_true rfl) (by exact Nat.le_of_ble_eq_true rfl) ⟨rfl, Or.inr ⟨rfl, ho, hx9⟩⟩) ?_
  rintro r w ⟨rfl, rfl, hq⟩
  refine zs_aload_n B dX4_placeOf_10 (i := 0) rfl rfl ?_
  refine zs_get B fX4_placeOf_10 rfl rfl dX4_placeOf_11 ?_
  refine zs_iload_n B dX4_placeOf_14 (i := 1) rfl rfl ?_
  refine zs_callV (n := 1) [1, 2, 3, 4, 5, 6, 7] B (zp_rowM hl D dA x.1 o) gX4_placeOf_X0_row rfl ⟨rfl, by decide, by decide, by decide +kernel⟩ rfl (by rfl) rfl rfl rfl (by rfl) ⟨(by exact Nat.le_of_ble_eq_true rfl), (by exact Nat.le_of_ble_eq_true rfl)⟩ (by exact Nat.le_of_ble_eq_true rfl) ⟨(by exact Nat.le_of_ble_eq_true rfl), (by exact Nat.le_of_ble_eq_true rfl)⟩ dX4_placeOf_15 (by rintro v w ⟨rfl, rfl⟩; rfl) (fun _ _ h => h.elim) (fun _ _ h => h.elim) ?_
  rintro r w ⟨rfl, rfl⟩
  by_cases h9 : o = 97
  · rw [if_pos h9]
    refine zs_eq (wl' := zb_W x) (st' := [.ref 5]) (zb_upP x x.1) rfl rfl rfl ?_
    refine zs_iload_n B dX4_placeOf_18 (i := 2) rfl rfl ?_
    refine zs_callV (n := 1) [5, 6, 7] B (zr_find hl D dA x.1.2.1 T.1.2.1 hR.1.2.1 key) gX4_placeOf_X2_find rfl ⟨rfl, by decide, by decide, by decide +kernel⟩ rfl (by rfl) rfl rfl rfl (by rfl) ⟨(by exact Nat.le_of_ble_eq_true rfl), (by exact Nat.le_of_ble_eq_true rfl)⟩ (by exact Nat.le_of_ble_eq_true rfl) ⟨(by exact Nat.le_of_ble_eq_true rfl), (by exact Nat.le_of_ble_eq_true rfl)⟩ dX4_placeOf_19 (by rintro v w ⟨rfl, rfl⟩; rfl) (fun _ _ h => h.elim) (fun _ _ h => h.elim) ?_
    rintro r w ⟨rfl, rfl⟩
    refine zs_eq (wl' := zb_W x) (st' := [.int (zl_fi T.1.2.1 key)]) (zb_upA x x.1.2.1) rfl rfl rfl ?_
    refine zs_zret hA B rfl rfl (by decide) (by decide) ⟨?_, rfl, ho, hq⟩ dX4_placeOf_22
    unfold zp_row
    rw [if_pos h9]
  · rw [if_neg h9]
    refine zs_eq (wl' := zb_W x) (st' := [.ref 2]) (zb_upP x x.1) rfl rfl rfl ?_
    refine zs_iload_n B dX4_placeOf_18 (i := 2) rfl rfl ?_
    refine zs_callV (n := 1) [2, 3, 4] B (zr_find hl D dA x.1.1 T.1.1 hR.1.1 key) gX4_placeOf_X2_find rfl ⟨rfl, by decide, by decide, by decide +kernel⟩ rfl (by rfl) rfl rfl rfl (by rfl) ⟨(by exact Nat.le_of_ble_eq_true rfl), (by exact Nat.le_of_ble_eq_true rfl)⟩ (by exact Nat.le_of_ble_eq_true rfl) ⟨(by exact Nat.le_of_ble_eq_true rfl), (by exact Nat.le_of_ble_eq_true rfl)⟩ dX4_placeOf_19 (by rintro v w ⟨rfl, rfl⟩; rfl) (fun _ _ h => h.elim) (fun _ _ h => h.elim) ?_
    rintro r w ⟨rfl, rfl⟩
    refine zs_eq (wl' := zb_W x) (st' := [.int (zl_fi T.1.1 key)]) (zb_upC x x.1.1) rfl rfl rfl ?_
    refine zs_zret hA B rfl rfl (by decide) (by decide) ⟨?_, rfl, ho, hq⟩ dX4_placeOf_22
    unfold zp_row
    rw [if_neg h9]
set_option maxHeartbeats 4000000 in
theorem zb_setAt {l : Launch} (hl : l.stackTraces = false) (D : va_G) (dA : Nat → ClassId) (x : zb_D) (T : zb_T) (hR : zb_R T x) (o q v : Int32) : zw_Sp l D dA yX4_setAt wsX4_setAt 7 2 12 [.ref 0, .int o, .int q, .int v] (zb_W x)
    (fun r w => r = some (.int (zl_val (zp_row T.1 o) (zf_ix q (zp_row T.1 o).length))) ∧ (o = 99 ∨ o = 97) ∧ (zf_ix q T.1.1.length).isSome = true ∧ ∃ x', zb_R (zb_set (zb_chg T) (zp_give T.1 (zl_key (zp_row T.1 o) (zf_ix q (zp_row T.1 o).length)) v)) x' ∧ w = zb_W x') (fun E w => w = zb_W x ∧ ((E = zE_a ∧ ¬ (o = 99 ∨ o = 97)) ∨ (E = zE_i ∧ (o = 99 ∨ o = 97) ∧ ¬ (zf_ix q T.1.1.length).isSome = true))) := by
  refine zw_start hl (by decide) rfl rfl (Nat.le_of_ble_eq_true rfl) ?_
  intro pr e s m args below meth c ad A hA B
  refine zs_aload_n B dX4_setAt_0 (i := 0) rfl rfl ?_
  refine zs_iload_n B dX4_setAt_1 (i := 1) rfl rfl ?_
  refine zs_callV0 (n := 1) B (zb_refuseOrder hl D dA x o) gX4_setAt_X4_refuseUnknownOrder rfl ⟨rfl, by decide, by decide, by decide +kernel⟩ rfl rfl rfl (by rfl) ⟨(by exact Nat.le_of_ble_eq_true rfl), (by exact Nat.le_of_ble_eq_true rfl)⟩ (by exact Nat.le_of_ble_eq_true rfl) ⟨(by exact Nat.le_of_ble_eq_true rfl), (by exact Nat.le_of_ble_eq_true rfl)⟩ dX4_setAt_2 (by rintro v w ⟨rfl, rfl, -⟩; rfl) (by rintro E w ⟨rfl, rfl, -⟩; rfl) (by rintro E w ⟨rfl, rfl, hx9⟩; exact zs_xout hA B (by exact Nat.le_of_ble_eq_true rfl) (by exact Nat.le_of_ble_eq_true rfl) ⟨rfl, Or.inl ⟨rfl, hx9⟩⟩) ?_
  rintro r w ⟨rfl, rfl, ho⟩
  refine zs_aload_n B dX4_setAt_5 (i := 0) rfl rfl ?_
  refine zs_iload_n B dX4_setAt_6 (i := 2) rfl rfl ?_
  refine zs_callV0 (n := 1) B (zb_refusePlace hl D dA x T hR q) gX4_setAt_X4_refuseUnknownPlace rfl ⟨rfl, by decide, by decide, by decide +kernel⟩ rfl rfl rfl (by rfl) ⟨(by exact Nat.le_of_ble_eq_true rfl), (by exact Nat.le_of_ble_eq_true rfl)⟩ (by exact Nat.le_of_ble_eq_true rfl) ⟨(by exact Nat.le_of_ble_eq_true rfl), (by exact Nat.le_of_ble_eq_true rfl)⟩ dX4_setAt_7 (by rintro v w ⟨rfl, rfl, -⟩; rfl) (by rintro E w ⟨rfl, rfl, -⟩; rfl) (by rintro E w ⟨rfl, rfl, hx9⟩; exact zs_xout hA B (by exact Nat.le_of_ble_eq_true rfl) (by exact Nat.le_of_ble_eq_true rfl) ⟨rfl, Or.inr ⟨rfl, ho, hx9⟩⟩) ?_
  rintro r w ⟨rfl, rfl, hq⟩
  refine zs_aload_n B dX4_setAt_10 (i := 0) rfl rfl ?_
  refine zs_get B fX4_setAt_10 rfl rfl dX4_setAt_11 ?_
  refine zs_iload_n B dX4_setAt_14 (i := 1) rfl rfl ?_
  refine zs_callV (n := 1) [1, 2, 3, 4, 5, 6, 7] B (zp_rowM hl D dA x.1 o) gX4_setAt_X0_row rfl ⟨rfl, by decide, by decide, by decide +kernel⟩ rfl (by rfl) rfl rfl rfl (by rfl) ⟨(by exact Nat.le_of_ble_eq_true rfl), (by exact Nat.le_of_ble_eq_true rfl)⟩ (by exact Nat.le_of_ble_eq_true rfl) ⟨(by exact Nat.le_of_ble_eq_true rfl), (by exact Nat.le_of_ble_eq_true rfl)⟩ dX4_setAt_15 (by rintro v w ⟨rfl, rfl⟩; rfl) (fun _ _ h => h.elim) (fun _ _ h => h.elim) ?_
  rintro r w ⟨rfl, rfl⟩
  by_cases h9 : o = 97
  · rw [if_pos h9]
    have e9 : zp_row T.1 o = T.1.2.1 := if_pos h9
    refine zs_eq (wl' := zb_W x) (st' := [.ref 5]) (zb_upP x x.1) rfl rfl rfl ?_
    refine zs_astore B dX4_setAt_18 (i := 4) (by decide) rfl ?_
    refine zs_aload B dX4_setAt_20 (i := 4) rfl ?_
    refine zs_iload_n B dX4_setAt_22 (i := 2) rfl rfl ?_
    refine zs_callV (n := 1) [5, 6, 7] B (zr_valueIn hl D dA x.1.2.1 T.1.2.1 hR.1.2.1 q) gX4_setAt_X2_valueIn rfl ⟨rfl, by decide, by decide, by decide +kernel⟩ rfl (by rfl) rfl rfl rfl (by rfl) ⟨(by exact Nat.le_of_ble_eq_true rfl), (by exact Nat.le_of_ble_eq_true rfl)⟩ (by exact Nat.le_of_ble_eq_true rfl) ⟨(by exact Nat.le_of_ble_eq_true rfl), (by exact Nat.le_of_ble_eq_true rfl)⟩ dX4_setAt_23 (by rintro v w ⟨rfl, rfl⟩; rfl) (fun _ _ h => h.elim) (fun _ _ h => h.elim) ?_
    rintro r w ⟨rfl, rfl⟩
    refine zs_eq (wl' := zb_W x) (st' := [.int (zl_val T.1.2.1 (zf_ix q T.1.2.1.length))]) (zb_upA x x.1.2.1) rfl rfl rfl ?_
    refine zs_istore B dX4_setAt_26 (i := 5) (by decide) rfl ?_
    refine zs_aload_n B dX4_setAt_28 (i := 0) rfl rfl ?_
    refine zs_callV0 (n := 0) B (zb_beginChange hl D dA x T hR) gX4_setAt_X4_beginChange rfl ⟨rfl, by decide, by decide, by decide +kernel⟩ rfl rfl rfl (by rfl) ⟨(by exact Nat.le_of_ble_eq_true rfl), (by exact Nat.le_of_ble_eq_true rfl)⟩ (by exact Nat.le_of_ble_eq_true rfl) ⟨(by exact Nat.le_of_ble_eq_true rfl), (by exact Nat.le_of_ble_eq_true rfl)⟩ dX4_setAt_29 (by rintro v w ⟨rfl, x9, h9, rfl⟩; rfl) (fun _ _ h => h.elim) (fun _ _ h => h.elim) ?_
    rintro r w ⟨rfl, x1, hR1, rfl⟩
    refine zs_aload_n B dX4_setAt_32 (i := 0) rfl rfl ?_
    refine zs_get B fX4_setAt_10 rfl rfl dX4_setAt_33 ?_
    refine zs_aload B dX4_setAt_36 (i := 4) rfl ?_
    refine zs_iload_n B dX4_setAt_38 (i := 2) rfl rfl ?_
    refine zs_callV (n := 1) [5, 6, 7] B (zr_keyIn hl D dA x1.1.2.1 T.1.2.1 hR1.1.2.1 q) gX4_setAt_X2_keyIn rfl ⟨rfl, by decide, by decide, by decide +kernel⟩ rfl (by rfl) rfl rfl rfl (by rfl) ⟨(by exact Nat.le_of_ble_eq_true rfl), (by exact Nat.le_of_ble_eq_true rfl)⟩ (by exact Nat.le_of_ble_eq_true rfl) ⟨(by exact Nat.le_of_ble_eq_true rfl), (by exact Nat.le_of_ble_eq_true rfl)⟩ dX4_setAt_39 (by rintro v w ⟨rfl, rfl⟩; rfl) (fun _ _ h => h.elim) (fun _ _ h => h.elim) ?_
    rintro r w ⟨rfl, rfl⟩
    refine zs_eq (wl' := zb_W x1) (st' := [.int (zl_key T.1.2.1 (zf_ix q T.1.2.1.length)), .ref 1]) (zb_upA x1 x1.1.2.1) rfl rfl rfl ?_
    refine zs_iload_n B dX4_setAt_42 (i := 3) rfl rfl ?_
    refine zs_callV (n := 2) [1, 2, 3, 4, 5, 6, 7] B (zp_giveKey hl D dA x1.1 T.1 hR1.1 (zl_key T.1.2.1 (zf_ix q T.1.2.1.length)) v) gX4_setAt_X0_giveKey rfl ⟨rfl, by decide, by decide, by decide +kernel⟩ rfl (by rfl) rfl rfl rfl (by rfl) ⟨(by exact Nat.le_of_ble_eq_true rfl), (by exact Nat.le_of_ble_eq_true rfl)⟩ (by exact Nat.le_of_ble_eq_true rfl) ⟨(by exact Nat.le_of_ble_eq_true rfl), (by exact Nat.le_of_ble_eq_true rfl)⟩ dX4_setAt_43 (by rintro v w ⟨rfl, d9, h9, rfl⟩; rfl) (fun _ _ h => h.elim) (fun _ _ h => h.elim) ?_
    rintro r w ⟨rfl, g1, hg1, rfl⟩
    refine zs_eq (wl' := zb_W (g1, x1.2)) (st' := []) (zb_upP x1 g1) rfl rfl rfl ?_
    refine zs_iload B dX4_setAt_46 (i := 5) rfl ?_
    exact zs_zret hA B rfl rfl (by decide) (by decide) ⟨by rw [e9], ho, hq, _, by rw [e9]; exact hR1.setP hg1 rfl, rfl⟩ dX4_setAt_48
  · rw [if_neg h9]
    have e9 : zp_row T.1 o = T.1.1 := if_neg h9
    refine zs_eq (wl' := zb_W x) (st' := [.ref 2]) (zb_upP x x.1) rfl rfl rfl ?_
    refine zs_astore B dX4_setAt_18 (i := 4) (by decide) rfl ?_
    refine zs_aload B dX4_setAt_20 (i := 4) rfl ?_
    refine zs_iload_n B dX4_setAt_22 (i := 2) rfl rfl ?_
    refine zs_callV (n := 1) [2, 3, 4] B (zr_valueIn hl D dA x.1.1 T.1.1 hR.1.1 q) gX4_setAt_X2_valueIn rfl ⟨rfl, by decide, by decide, by decide +kernel⟩ rfl (by rfl) rfl rfl rfl (by rfl) ⟨(by exact Nat.le_of_ble_eq_true rfl), (by exact Nat.le_of_ble_eq_true rfl)⟩ (by exact Nat.le_of_ble_eq_true rfl) ⟨(by exact Nat.le_of_ble_eq_true rfl), (by exact Nat.le_of_ble_eq_true rfl)⟩ dX4_setAt_23 (by rintro v w ⟨rfl, rfl⟩; rfl) (fun _ _ h => h.elim) (fun _ _ h => h.elim) ?_
    rintro r w ⟨rfl, rfl⟩
    refine zs_eq (wl' := zb_W x) (st' := [.int (zl_val T.1.1 (zf_ix q T.1.1.length))]) (zb_upC x x.1.1) rfl rfl rfl ?_
    refine zs_istore B dX4_setAt_26 (i := 5) (by decide) rfl ?_
    refine zs_aload_n B dX4_setAt_28 (i := 0) rfl rfl ?_
    refine zs_callV0 (n := 0) B (zb_beginChange hl D dA x T hR) gX4_setAt_X4_beginChange rfl ⟨rfl, by decide, by decide, by decide +kernel⟩ rfl rfl rfl (by rfl) ⟨(by exact Nat.le_of_ble_eq_true rfl), (by exact Nat.le_of_ble_eq_true rfl)⟩ (by exact Nat.le_of_ble_eq_true rfl) ⟨(by exact Nat.le_of_ble_eq_true rfl), (by exact Nat.le_of_ble_eq_true rfl)⟩ dX4_setAt_29 (by rintro v w ⟨rfl, x9, h9, rfl⟩; rfl) (fun _ _ h => h.elim) (fun _ _ h => h.elim) ?_
    rintro r w ⟨rfl, x1, hR1, rfl⟩
    refine zs_aload_n B dX4_setAt_32 (i := 0) rfl rfl ?_
    refine zs_get B fX4_setAt_10 rfl rfl dX4_setAt_33 ?_
    refine zs_aload B dX4_setAt_36 (i := 4) rfl ?_
    refine zs_iload_n B dX4_setAt_38 (i := 2) rfl rfl ?_
    refine zs_callV (n := 1) [2, 3, 4] B (zr_keyIn hl D dA x1.1.1 T.1.1 hR1.1.1 q) gX4_setAt_X2_keyIn rfl ⟨rfl, by decide, by decide, by decide +kernel⟩ rfl (by rfl) rfl rfl rfl (by rfl) ⟨(by exact Nat.le_of_ble_eq_true rfl), (by exact Nat.le_of_ble_eq_true rfl)⟩ (by exact Nat.le_of_ble_eq_true rfl) ⟨(by exact Nat.le_of_ble_eq_true rfl), (by exact Nat.le_of_ble_eq_true rfl)⟩ dX4_setAt_39 (by rintro v w ⟨rfl, rfl⟩; rfl) (fun _ _ h => h.elim) (fun _ _ h => h.elim) ?_
    rintro r w ⟨rfl, rfl⟩
    refine zs_eq (wl' := zb_W x1) (st' := [.int (zl_key T.1.1 (zf_ix q T.1.1.length)), .ref 1]) (zb_upC x1 x1.1.1) rfl rfl rfl ?_
    refine zs_iload_n B dX4_setAt_42 (i := 3) rfl rfl ?_
    refine zs_callV (n := 2) [1, 2, 3, 4, 5, 6, 7] B (zp_giveKey hl D dA x1.1 T.1 hR1.1 (zl_key T.1.1 (zf_ix q T.1.1.length)) v) gX4_setAt_X0_giveKey rfl ⟨rfl, by decide, by decide, by decide +kernel⟩ rfl (by rfl) rfl rfl rfl (by rfl) ⟨(by exact Nat.le_of_ble_eq_true rfl), (by exact Nat.le_of_ble_eq_true rfl)⟩ (by exact Nat.le_of_ble_eq_true rfl) ⟨(by exact Nat.le_of_ble_eq_true rfl), (by exact Nat.le_of_ble_eq_true rfl)⟩ dX4_setAt_43 (by rintro v w ⟨rfl, d9, h9, rfl⟩; rfl) (fun _ _ h => h.elim) (fun _ _ h => h.elim) ?_
    rintro r w ⟨rfl, g1, hg1, rfl⟩
    refine zs_eq (wl' := zb_W (g1, x1.2)) (st' := []) (zb_upP x1 g1) rfl rfl rfl ?_
    refine zs_iload B dX4_setAt_46 (i := 5) rfl ?_
    exact zs_zret hA B rfl rfl (by decide) (by decide) ⟨by rw [e9], ho, hq, _, by rw [e9]; exact hR1.setP hg1 rfl, rfl⟩ dX4_setAt_48
set_option maxHeartbeats 4000000 in
theorem zb_removeAt {l : Launch} (hl : l.stackTraces = false) (D : va_G) (dA : Nat → ClassId) (x : zb_D) (T : zb_T) (hR : zb_R T x) (o q : Int32) : zw_Sp l D dA yX4_removeAt wsX4_removeAt 7 2 12 [.ref 0, .int o, .int q] (zb_W x)
    (fun r w => r = some (.int (zl_key (zp_row T.1 o) (zf_ix q (zp_row T.1 o).length))) ∧ (o = 99 ∨ o = 97) ∧ (zf_ix q T.1.1.length).isSome = true ∧ ∃ x', zb_R (zb_set (zb_chg T) (zp_take T.1 (zl_key (zp_row T.1 o) (zf_ix q (zp_row T.1 o).length)))) x' ∧ w = zb_W x') (fun E w => w = zb_W x ∧ ((E = zE_a ∧ ¬ (o = 99 ∨ o = 97)) ∨ (E = zE_i ∧ (o = 99 ∨ o = 97) ∧ ¬ (zf_ix q T.1.1.length).isSome = true))) := by
  refine zw_start hl (by decide) rfl rfl (Nat.le_of_ble_eq_true rfl) ?_
  intro pr e s m args below meth c ad A hA B
  refine zs_aload_n B dX4_removeAt_0 (i := 0) rfl rfl ?_
  refine zs_iload_n B dX4_removeAt_1 (i := 1) rfl rfl ?_
  refine zs_callV0 (n := 1) B (zb_refuseOrder hl D dA x o) gX4_removeAt_X4_refuseUnknownOrder rfl ⟨rfl, by decide, by decide, by decide +kernel⟩ rfl rfl rfl (by rfl) ⟨(by exact Nat.le_of_ble_eq_true rfl), (by exact Nat.le_of_ble_eq_true rfl)⟩ (by exact Nat.le_of_ble_eq_true rfl) ⟨(by exact Nat.le_of_ble_eq_true rfl), (by exact Nat.le_of_ble_eq_true rfl)⟩ dX4_removeAt_2 (by rintro v w ⟨rfl, rfl, -⟩; rfl) (by rintro E w ⟨rfl, rfl, -⟩; rfl) (by rintro E w ⟨rfl, rfl, hx9⟩; exact zs_xout hA B (by exact Nat.le_of_ble_eq_true rfl) (by exact Nat.le_of_ble_eq_true rfl) ⟨rfl, Or.inl ⟨rfl, hx9⟩⟩) ?_
  rintro r w ⟨rfl, rfl, ho⟩
  refine zs_aload_n B dX4_removeAt_5 (i := 0) rfl rfl ?_
  refine zs_iload_n B dX4_removeAt_6 (i := 2) rfl rfl ?_
  refine zs_callV0 (n := 1) B (zb_refusePlace hl D dA x T hR q) gX4_removeAt_X4_refuseUnknownPlace rfl ⟨rfl, by decide, by decide, by decide +kernel⟩ rfl rfl rfl (by rfl) ⟨(by exact Nat.le_of_ble_eq_true rfl), (by exact Nat.le_of_ble_eq_true rfl)⟩ (by exact Nat.le_of_ble_eq_true rfl) ⟨(by exact Nat.le_of_ble_eq_true rfl), (by exact Nat.le_of_ble_eq_true rfl)⟩ dX4_removeAt_7 (by rintro v w ⟨rfl, rfl, -⟩; rfl) (by rintro E w ⟨rfl, rfl, -⟩; rfl) (by rintro E w ⟨rfl, rfl, hx9⟩; exact zs_xout hA B (by exact Nat.le_of_ble_eq_true rfl) (by exact Nat.le_of_ble_eq_true rfl) ⟨rfl, Or.inr ⟨rfl, ho, hx9⟩⟩) ?_
  rintro r w ⟨rfl, rfl, hq⟩
  refine zs_aload_n B dX4_removeAt_10 (i := 0) rfl rfl ?_
  refine zs_get B fX4_removeAt_10 rfl rfl dX4_removeAt_11 ?_
  refine zs_iload_n B dX4_removeAt_14 (i := 1) rfl rfl ?_
  refine zs_callV (n := 1) [1, 2, 3, 4, 5, 6, 7] B (zp_rowM hl D dA x.1 o) gX4_removeAt_X0_row rfl ⟨rfl, by decide, by decide, by decide +kernel⟩ rfl (by rfl) rfl rfl rfl (by rfl) ⟨(by exact Nat.le_of_ble_eq_true rfl), (by exact Nat.le_of_ble_eq_true rfl)⟩ (by exact Nat.le_of_ble_eq_true rfl) ⟨(by exact Nat.le_of_ble_eq_true rfl), (by exact Nat.le_of_ble_eq_true rfl)⟩ dX4_removeAt_15 (by rintro v w ⟨rfl, rfl⟩; rfl) (fun _ _ h => h.elim) (fun _ _ h => h.elim) ?_
  rintro r w ⟨rfl, rfl⟩
  by_cases h9 : o = 97
  · rw [if_pos h9]
    have e9 : zp_row T.1 o = T.1.2.1 := if_pos h9
    refine zs_eq (wl' := zb_W x) (st' := [.ref 5]) (zb_upP x x.1) rfl rfl rfl ?_
    refine zs_iload_n B dX4_removeAt_18 (i := 2) rfl rfl ?_
    refine zs_callV (n := 1) [5, 6, 7] B (zr_keyIn hl D dA x.1.2.1 T.1.2.1 hR.1.2.1 q) gX4_removeAt_X2_keyIn rfl ⟨rfl, by decide, by decide, by decide +kernel⟩ rfl (by rfl) rfl rfl rfl (by rfl) ⟨(by exact Nat.le_of_ble_eq_true rfl), (by exact Nat.le_of_ble_eq_true rfl)⟩ (by exact Nat.le_of_ble_eq_true rfl) ⟨(by exact Nat.le_of_ble_eq_true rfl), (by exact Nat.le_of_ble_eq_true rfl)⟩ dX4_removeAt_19 (by rintro v w ⟨rfl, rfl⟩; rfl) (fun _ _ h => h.elim) (fun _ _ h => h.elim) ?_
    rintro r w ⟨rfl, rfl⟩
    refine zs_eq (wl' := zb_W x) (st' := [.int (zl_key T.1.2.1 (zf_ix q T.1.2.1.length))]) (zb_upA x x.1.2.1) rfl rfl rfl ?_
    refine zs_istore_n B dX4_removeAt_22 (i := 3) rfl (by decide) rfl ?_
    refine zs_aload_n B dX4_removeAt_23 (i := 0) rfl rfl ?_
    refine zs_callV0 (n := 0) B (zb_beginChange hl D dA x T hR) gX4_removeAt_X4_beginChange rfl ⟨rfl, by decide, by decide, by decide +kernel⟩ rfl rfl rfl (by rfl) ⟨(by exact Nat.le_of_ble_eq_true rfl), (by exact Nat.le_of_ble_eq_true rfl)⟩ (by exact Nat.le_of_ble_eq_true rfl) ⟨(by exact Nat.le_of_ble_eq_true rfl), (by exact Nat.le_of_ble_eq_true rfl)⟩ dX4_removeAt_24 (by rintro v w ⟨rfl, x9, h9, rfl⟩; rfl) (fun _ _ h => h.elim) (fun _ _ h => h.elim) ?_
    rintro r w ⟨rfl, x1, hR1, rfl⟩
    refine zs_aload_n B dX4_removeAt_27 (i := 0) rfl rfl ?_
    refine zs_get B fX4_removeAt_10 rfl rfl dX4_removeAt_28 ?_
    refine zs_iload_n B dX4_removeAt_31 (i := 3) rfl rfl ?_
    refine zs_callV (n := 1) [1, 2, 3, 4, 5, 6, 7] B (zp_takeOut hl D dA x1.1 T.1 hR1.1 (zl_key T.1.2.1 (zf_ix q T.1.2.1.length))) gX4_removeAt_X0_takeOut rfl ⟨rfl, by decide, by decide, by decide +kernel⟩ rfl (by rfl) rfl rfl rfl (by rfl) ⟨(by exact Nat.le_of_ble_eq_true rfl), (by exact Nat.le_of_ble_eq_true rfl)⟩ (by exact Nat.le_of_ble_eq_true rfl) ⟨(by exact Nat.le_of_ble_eq_true rfl), (by exact Nat.le_of_ble_eq_true rfl)⟩ dX4_removeAt_32 (by rintro v w ⟨rfl, d9, h9, rfl⟩; rfl) (fun _ _ h => h.elim) (fun _ _ h => h.elim) ?_
    rintro r w ⟨rfl, g1, hg1, rfl⟩
    refine zs_eq (wl' := zb_W (g1, x1.2)) (st' := []) (zb_upP x1 g1) rfl rfl rfl ?_
    refine zs_iload_n B dX4_removeAt_35 (i := 3) rfl rfl ?_
    exact zs_zret hA B rfl rfl (by decide) (by decide) ⟨by rw [e9], ho, hq, _, by rw [e9]; exact hR1.setP hg1 rfl, rfl⟩ dX4_removeAt_36
  · rw [if_neg h9]
    have e9 : zp_row T.1 o = T.1.1 := if_neg h9
    refine zs_eq (wl' := zb_W x) (st' := [.ref 2]) (zb_upP x x.1) rfl rfl rfl ?_
    refine zs_iload_n B dX4_removeAt_18 (i := 2) rfl rfl ?_
    refine zs_callV (n := 1) [2, 3, 4] B (zr_keyIn hl D dA x.1.1 T.1.1 hR.1.1 q) gX4_removeAt_X2_keyIn rfl ⟨rfl, by decide, by decide, by decide +kernel⟩ rfl (by rfl) rfl rfl rfl (by rfl) ⟨(by exact Nat.le_of_ble_eq_true rfl), (by exact Nat.le_of_ble_eq_true rfl)⟩ (by exact Nat.le_of_ble_eq_true rfl) ⟨(by exact Nat.le_of_ble_eq_true rfl), (by exact Nat.le_of_ble_eq_true rfl)⟩ dX4_removeAt_19 (by rintro v w ⟨rfl, rfl⟩; rfl) (fun _ _ h => h.elim) (fun _ _ h => h.elim) ?_
    rintro r w ⟨rfl, rfl⟩
    refine zs_eq (wl' := zb_W x) (st' := [.int (zl_key T.1.1 (zf_ix q T.1.1.length))]) (zb_upC x x.1.1) rfl rfl rfl ?_
    refine zs_istore_n B dX4_removeAt_22 (i := 3) rfl (by decide) rfl ?_
    refine zs_aload_n B dX4_removeAt_23 (i := 0) rfl rfl ?_
    refine zs_callV0 (n := 0) B (zb_beginChange hl D dA x T hR) gX4_removeAt_X4_beginChange rfl ⟨rfl, by decide, by decide, by decide +kernel⟩ rfl rfl rfl (by rfl) ⟨(by exact Nat.le_of_ble_eq_true rfl), (by exact Nat.le_of_ble_eq_true rfl)⟩ (by exact Nat.le_of_ble_eq_true rfl) ⟨(by exact Nat.le_of_ble_eq_true rfl), (by exact Nat.le_of_ble_eq_true rfl)⟩ dX4_removeAt_24 (by rintro v w ⟨rfl, x9, h9, rfl⟩; rfl) (fun _ _ h => h.elim) (fun _ _ h => h.elim) ?_
    rintro r w ⟨rfl, x1, hR1, rfl⟩
    refine zs_aload_n B dX4_removeAt_27 (i := 0) rfl rfl ?_
    refine zs_get B fX4_removeAt_10 rfl rfl dX4_removeAt_28 ?_
    refine zs_iload_n B dX4_removeAt_31 (i := 3) rfl rfl ?_
    refine zs_callV (n := 1) [1, 2, 3, 4, 5, 6, 7] B (zp_takeOut hl D dA x1.1 T.1 hR1.1 (zl_key T.1.1 (zf_ix q T.1.1.length))) gX4_removeAt_X0_takeOut rfl ⟨rfl, by decide, by decide, by decide +kernel⟩ rfl (by rfl) rfl rfl rfl (by rfl) ⟨(by exact Nat.le_of_ble_eq_true rfl), (by exact Nat.le_of_ble_eq_true rfl)⟩ (by exact Nat.le_of_ble_eq_true rfl) ⟨(by exact Nat.le_of_ble_eq_true rfl), (by exact Nat.le_of_ble_eq_true rfl)⟩ dX4_removeAt_32 (by rintro v w ⟨rfl, d9, h9, rfl⟩; rfl) (fun _ _ h => h.elim) (fun _ _ h => h.elim) ?_
    rintro r w ⟨rfl, g1, hg1, rfl⟩
    refine zs_eq (wl' := zb_W (g1, x1.2)) (st' := []) (zb_upP x1 g1) rfl rfl rfl ?_
    refine zs_iload_n B dX4_removeAt_35 (i := 3) rfl rfl ?_
    exact zs_zret hA B rfl rfl (by decide) (by decide) ⟨by rw [e9], ho, hq, _, by rw [e9]; exact hR1.setP hg1 rfl, rfl⟩ dX4_removeAt_36
set_option maxHeartbeats 4000000 in
theorem zb_thin {l : Launch} (hl : l.stackTraces = false) (D : va_G) (dA : Nat → ClassId) (x : zb_D) (T : zb_T) (hR : zb_R T x) (o each : Int32) : zw_Sp l D dA yX4_thin wsX4_thin 7 2 12 [.ref 0, .int o, .int each] (zb_W x)
    (fun r w => ∃ ee : Nat, 1 ≤ ee ∧ ee ≤ 12 ∧ each = nI ee ∧ (o = 99 ∨ o = 97) ∧ r = some (.int (nI (T.1.1.length / ee))) ∧ ∃ x', ((T.1.1.length < ee ∧ zb_R T x') ∨ (ee ≤ T.1.1.length ∧ zb_R (zb_set (zb_chg T) (zp_each o ee (T.1.1.length / ee) T.1)) x')) ∧ w = zb_W x') (fun E w => E = zE_a ∧ w = zb_W x ∧ ¬ ((o = 99 ∨ o = 97) ∧ 1 ≤ each.toInt ∧ each.toInt ≤ 12)) := by
  refine zw_start hl (by decide) rfl rfl (Nat.le_of_ble_eq_true rfl) ?_
  intro pr e s m args below meth c ad A hA B
  have h12 := hR.1.1.len
  refine zs_aload_n B dX4_thin_0 (i := 0) rfl rfl ?_
  refine zs_iload_n B dX4_thin_1 (i := 1) rfl rfl ?_
  refine zs_callV0 (n := 1) B (zb_refuseOrder hl D dA x o) gX4_thin_X4_refuseUnknownOrder rfl ⟨rfl, by decide, by decide, by decide +kernel⟩ rfl rfl rfl (by rfl) ⟨(by exact Nat.le_of_ble_eq_true rfl), (by exact Nat.le_of_ble_eq_true rfl)⟩ (by exact Nat.le_of_ble_eq_true rfl) ⟨(by exact Nat.le_of_ble_eq_true rfl), (by exact Nat.le_of_ble_eq_true rfl)⟩ dX4_thin_2 (by rintro v w ⟨rfl, rfl, -⟩; rfl) (by rintro E w ⟨rfl, rfl, -⟩; rfl) (by rintro E w ⟨rfl, rfl, hx9⟩; exact zs_xout hA B (by exact Nat.le_of_ble_eq_true rfl) (by exact Nat.le_of_ble_eq_true rfl) ⟨rfl, rfl, fun q => hx9 q.1⟩) ?_
  rintro r w ⟨rfl, rfl, ho⟩
  refine zs_iload_n B dX4_thin_5 (i := 2) rfl rfl ?_
  refine zs_iconst (v := 1) B dX4_thin_6 (by decide) ?_
  refine zs_icmp_lt (tgt := 16) B dX4_thin_7 (by decide) (fun h => ?_) (fun h => ?_)
  · have h' : each.toInt < 1 := Int32.lt_iff_toInt_lt.mp h
    refine zs_throw hA B (cls := zE_a) (text := "the number is out of range") (fr := 7) rfl (by decide) (by decide +kernel) (by decide +kernel) (by decide +kernel) (by decide +kernel) (by decide +kernel) (by decide +kernel) (by decide +kernel) (by decide +kernel) dX4_thin_16 dX4_thin_19 dX4_thin_20 dX4_thin_22 dX4_thin_25 (by exact Nat.le_of_ble_eq_true rfl) (by exact Nat.le_of_ble_eq_true rfl) (by exact Nat.le_of_ble_eq_true rfl) ?_
    exact ⟨rfl, rfl, by omega⟩
  · have h' : ¬ each.toInt < 1 := fun q => h (Int32.lt_iff_toInt_lt.mpr q)
    refine zs_iload_n B dX4_thin_10 (i := 2) rfl rfl ?_
    refine zs_bipush (v := 12) B dX4_thin_11 (by decide) ?_
    refine zs_icmp_le (tgt := 26) B dX4_thin_13 (by decide) (fun h2 => ?_) (fun h2 => ?_)
    · have h3 : each.toInt ≤ 12 := Int32.le_iff_toInt_le.mp h2
      obtain ⟨ee, hee, rfl⟩ := nI_of2 (x := each) (M := 12) (n := 12) rfl (by rw [Int32.lt_iff_toInt_lt, Int32.toInt_zero]; omega) h2
      rw [nI_toInt (by omega)] at h' h3
      refine zs_iload_n B dX4_thin_26 (i := 2) rfl rfl ?_
      refine zs_aload_n B dX4_thin_27 (i := 0) rfl rfl ?_
      refine zs_get B fX4_thin_10 rfl rfl dX4_thin_28 ?_
      refine zs_getN B fX4_thin_69 rfl rfl dX4_thin_31 ?_
      refine zs_callV (n := 0) [2, 3, 4] B (zr_count hl D dA x.1.1) gX4_thin_X2_count rfl ⟨rfl, by decide, by decide, by decide +kernel⟩ rfl (by rfl) rfl rfl rfl (by rfl) ⟨(by exact Nat.le_of_ble_eq_true rfl), (by exact Nat.le_of_ble_eq_true rfl)⟩ (by exact Nat.le_of_ble_eq_true rfl) ⟨(by exact Nat.le_of_ble_eq_true rfl), (by exact Nat.le_of_ble_eq_true rfl)⟩ dX4_thin_34 (by rintro v w ⟨rfl, rfl⟩; rfl) (fun _ _ h => h.elim) (fun _ _ h => h.elim) ?_
      rintro r w ⟨rfl, rfl⟩
      refine zs_eq (wl' := zb_W x) (st' := [.int (nI T.1.1.length), .int (nI ee)]) (zb_upC x x.1.1) rfl (by rw [← hR.1.1.1]; rfl) rfl ?_
      refine zs_icmp_le (tgt := 42) B dX4_thin_37 (by decide) (fun h4 => ?_) (fun h4 => ?_)
      · have h5 : ee ≤ T.1.1.length := (nI_leI (by omega) (by omega)).mp h4
        refine zs_aload_n B dX4_thin_42 (i := 0) rfl rfl ?_
        refine zs_callV0 (n := 0) B (zb_beginChange hl D dA x T hR) gX4_thin_X4_beginChange rfl ⟨rfl, by decide, by decide, by decide +kernel⟩ rfl rfl rfl (by rfl) ⟨(by exact Nat.le_of_ble_eq_true rfl), (by exact Nat.le_of_ble_eq_true rfl)⟩ (by exact Nat.le_of_ble_eq_true rfl) ⟨(by exact Nat.le_of_ble_eq_true rfl), (by exact Nat.le_of_ble_eq_true rfl)⟩ dX4_thin_43 (by rintro v w ⟨rfl, x9, h9, rfl⟩; rfl) (fun _ _ h => h.elim) (fun _ _ h => h.elim) ?_
        rintro r w ⟨rfl, x1, hR1, rfl⟩
        refine zs_aload_n B dX4_thin_46 (i := 0) rfl rfl ?_
        refine zs_get B fX4_thin_10 rfl rfl dX4_thin_47 ?_
        refine zs_iload_n B dX4_thin_50 (i := 1) rfl rfl ?_
        refine zs_iload_n B dX4_thin_51 (i := 2) rfl rfl ?_
        refine zs_callV (n := 2) [1, 2, 3, 4, 5, 6, 7] B (zp_takeOutEach hl D dA x1.1 T.1 hR1.1 o ee (by omega) hee) gX4_thin_X0_takeOutEach rfl ⟨rfl, by decide, by decide, by decide +kernel⟩ rfl (by rfl) rfl rfl rfl (by rfl) ⟨(by exact Nat.le_of_ble_eq_true rfl), (by exact Nat.le_of_ble_eq_true rfl)⟩ (by exact Nat.le_of_ble_eq_true rfl) ⟨(by exact Nat.le_of_ble_eq_true rfl), (by exact Nat.le_of_ble_eq_true rfl)⟩ dX4_thin_52 (by rintro v w ⟨rfl, d9, h9, rfl⟩; rfl) (fun _ _ h => h.elim) (fun _ _ h => h.elim) ?_
        rintro r w ⟨rfl, g1, hg1, rfl⟩
        refine zs_eq (wl' := zb_W (g1, x1.2)) (st' := [.int (nI (T.1.1.length / ee))]) (zb_upP x1 g1) rfl rfl rfl ?_
        refine zs_zret hA B rfl rfl (by decide) (by decide) ⟨ee, by omega, hee, rfl, ho, rfl, _, Or.inr ⟨h5, hR1.setP (S := zp_each o ee (T.1.1.length / ee) T.1) hg1 ?_⟩, rfl⟩ dX4_thin_55
        generalize T.1.1.length / ee = t
        show (zp_each o ee t T.1).2.2.2 = T.1.2.2.2
        have key : ∀ (t : Nat) (S : zp_L), (zp_each o ee t S).2.2.2 = S.2.2.2 := by
          intro t
          induction t with
          | zero => intro S; rfl
          | succ t ih => intro S; exact ih _
        exact key t T.1
      · have h5 : T.1.1.length < ee := by
          rcases Nat.lt_or_ge T.1.1.length ee with q | q
          · exact q
          · exact absurd (nI_le q (by omega)) h4
        refine zs_iconst (v := 0) B dX4_thin_40 (by decide) ?_
        exact zs_zret hA B rfl rfl (by decide) (by decide) ⟨ee, by omega, hee, rfl, ho, by rw [Nat.div_eq_of_lt h5]; rfl, _, Or.inl ⟨h5, hR⟩, rfl⟩ dX4_thin_41
    · have h3 : ¬ each.toInt ≤ 12 := fun q => h2 (Int32.le_iff_toInt_le.mpr q)
      refine zs_throw hA B (cls := zE_a) (text := "the number is out of range") (fr := 7) rfl (by decide) (by decide +kernel) (by decide +kernel) (by decide +kernel) (by decide +kernel) (by decide +kernel) (by decide +kernel) (by decide +kernel) (by decide +kernel) dX4_thin_16 dX4_thin_19 dX4_thin_20 dX4_thin_22 dX4_thin_25 (by exact Nat.le_of_ble_eq_true rfl) (by exact Nat.le_of_ble_eq_true rfl) (by exact Nat.le_of_ble_eq_true rfl) ?_
      exact ⟨rfl, rfl, by omega⟩
