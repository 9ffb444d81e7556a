/-! the book: walks, moves, the past, the sum -/
theorem zb_t {T : zb_T} {x : zb_D} (h : zb_R T x) : x.2.2.1 = T.2.2 := h.2.2.2.1.symm
set_option maxHeartbeats 4000000 in
theorem zb_walk {l : Launch} (hl : l.stackTraces = false) (D : va_G) (dA : Nat → ClassId) (x : zb_D) (T : zb_T) (hR : zb_R T x) (o : Int32) : zw_Sp l D dA yX4_walk wsX4_walk 7 1 6 [.ref 0, .int o] (zb_W x)
    (fun r w => (o = 99 ∨ o = 97) ∧ r = some (.int (nI T.1.1.length)) ∧ ∃ x', zb_R (T.1, T.2.1, (1, o, 0, 0)) x' ∧ w = zb_W x') (fun E w => E = zE_a ∧ w = zb_W x ∧ ¬ (o = 99 ∨ o = 97)) := by
  refine zw_start hl (by decide) rfl rfl (Nat.le_of_ble_eq_true rfl) ?_
  intro pr e s m args below meth c ad A hA B
  refine zs_aload_n B dX4_walk_0 (i := 0) rfl rfl ?_
  refine zs_iload_n B dX4_walk_1 (i := 1) rfl rfl ?_
  refine zs_callV0 (n := 1) B (zb_refuseOrder hl D dA x o) gX4_walk_X4_refuseUnknownOrder rfl ⟨rfl, by decide, by decide, by decide +kernel⟩ rfl rfl rfl (by rfl) ⟨(by exact Nat.le_of_ble_eq_true rfl), (by exact Nat.le_of_ble_eq_true rfl)⟩ (by exact Nat.le_of_ble_eq_true rfl) ⟨(by exact Nat.le_of_ble_eq_true rfl), (by exact Nat.le_of_ble_eq_true rfl)⟩ dX4_walk_2 (by rintro v w ⟨rfl, rfl, -⟩; rfl) (by rintro E w ⟨rfl, rfl, -⟩; rfl) (by rintro E w ⟨rfl, rfl, hx9⟩; exact zs_xout hA B (by exact Nat.le_of_ble_eq_true rfl) (by exact Nat.le_of_ble_eq_true rfl) ⟨rfl, rfl, hx9⟩) ?_
  rintro r w ⟨rfl, rfl, ho⟩
  refine zs_aload_n B dX4_walk_5 (i := 0) rfl rfl ?_
  refine zs_get B fX4_walk_26 rfl rfl dX4_walk_6 ?_
  refine zs_iload_n B dX4_walk_9 (i := 1) rfl rfl ?_
  refine zs_callV (n := 1) [66] B (zt_begin hl D dA x.2.2.1 o (zb_o_nar ho).1 (zb_o_nar ho).2) gX4_walk_X3_begin rfl ⟨rfl, by decide, by decide, by decide +kernel⟩ rfl (by rfl) rfl rfl rfl (by rfl) ⟨(by exact Nat.le_of_ble_eq_true rfl), (by exact Nat.le_of_ble_eq_true rfl)⟩ (by exact Nat.le_of_ble_eq_true rfl) ⟨(by exact Nat.le_of_ble_eq_true rfl), (by exact Nat.le_of_ble_eq_true rfl)⟩ dX4_walk_10 (by rintro v w ⟨rfl, rfl⟩; rfl) (fun _ _ h => h.elim) (fun _ _ h => h.elim) ?_
  rintro r w ⟨rfl, rfl⟩
  refine zs_eq (wl' := zb_W (x.1, x.2.1, (1, o, 0, 0), x.2.2.2)) (st' := []) (zb_upT x (1, o, 0, 0)) rfl rfl rfl ?_
  refine zs_aload_n B dX4_walk_13 (i := 0) rfl rfl ?_
  refine zs_get B fX4_walk_10 rfl rfl dX4_walk_14 ?_
  refine zs_getN B fX4_walk_69 rfl rfl dX4_walk_17 ?_
  refine zs_callV (n := 0) [2, 3, 4] B (zr_count hl D dA x.1.1) gX4_walk_X2_count rfl ⟨rfl, by decide, by decide, by decide +kernel⟩ rfl (by rfl) rfl rfl rfl (by rfl) ⟨(by exact Nat.le_of_ble_eq_true rfl), (by exact Nat.le_of_ble_eq_true rfl)⟩ (by exact Nat.le_of_ble_eq_true rfl) ⟨(by exact Nat.le_of_ble_eq_true rfl), (by exact Nat.le_of_ble_eq_true rfl)⟩ dX4_walk_20 (by rintro v w ⟨rfl, rfl⟩; rfl) (fun _ _ h => h.elim) (fun _ _ h => h.elim) ?_
  rintro r w ⟨rfl, rfl⟩
  refine zs_eq (wl' := zb_W (x.1, x.2.1, (1, o, 0, 0), x.2.2.2)) (st' := [.int (nI T.1.1.length)]) (zb_upC (x.1, x.2.1, (1, o, 0, 0), x.2.2.2) x.1.1) rfl (by rw [← hR.1.1.1]; rfl) rfl ?_
  refine zs_zret hA B rfl rfl (by decide) (by decide) ⟨ho, rfl, (x.1, x.2.1, (1, o, 0, 0), x.2.2.2), ⟨hR.1, hR.2.1, hR.2.2.1, rfl, ?_⟩, rfl⟩ dX4_walk_23
  show zt_ok (1, o, 0, 0)
  exact ⟨(by decide : narrow .boolean (.int 1) = .int 1), (zb_o_nar ho).1, (by decide : narrow .boolean (.int 0) = .int 0)⟩
theorem zb_upT0 (x : zb_D) : zw_back (zb_W x) [66] ((zt_W x.2.2.1).map (zw_rE [66])) = zb_W x := zb_upT x x.2.2.1
set_option maxHeartbeats 4000000 in
theorem zb_step {l : Launch} (hl : l.stackTraces = false) (D : va_G) (dA : Nat → ClassId) (x : zb_D) (T : zb_T) (hR : zb_R T x) : zw_Sp l D dA yX4_step wsX4_step 7 1 6 [.ref 0] (zb_W x)
    (fun r w => ¬ T.2.2.1 = 0 ∧ (zf_ix T.2.2.2.2.1 (zp_row T.1 T.2.2.2.1).length).isSome = true ∧ r = some (.int (zl_key (zp_row T.1 T.2.2.2.1) (zf_ix T.2.2.2.2.1 (zp_row T.1 T.2.2.2.1).length))) ∧ ∃ x', zb_R (T.1, T.2.1, (T.2.2.1, T.2.2.2.1, T.2.2.2.2.1 + 1, 1)) x' ∧ w = zb_W x')
    (fun E w => w = zb_W x ∧ ((E = zE_s ∧ T.2.2.1 = 0) ∨ (E = zE_n ∧ ¬ T.2.2.1 = 0 ∧ ¬ (zf_ix T.2.2.2.2.1 (zp_row T.1 T.2.2.2.1).length).isSome = true))) := by
  refine zw_start hl (by decide) rfl rfl (Nat.le_of_ble_eq_true rfl) ?_
  intro pr e s m args below meth c ad A hA B
  obtain ⟨S, hist, t⟩ := T
  obtain ⟨g, q, t', d⟩ := x
  obtain ⟨h1, h2, h3, h4, h5⟩ := hR
  have h4 : t = t' := h4
  subst h4
  refine zs_aload_n B dX4_step_0 (i := 0) rfl rfl ?_
  refine zs_get B fX4_step_26 rfl rfl dX4_step_1 ?_
  refine zs_callV (n := 0) [66] B (zt_isOn hl D dA t h5.1) gX4_step_X3_isOn rfl ⟨rfl, by decide, by decide, by decide +kernel⟩ rfl (by rfl) rfl rfl rfl (by rfl) ⟨(by exact Nat.le_of_ble_eq_true rfl), (by exact Nat.le_of_ble_eq_true rfl)⟩ (by exact Nat.le_of_ble_eq_true rfl) ⟨(by exact Nat.le_of_ble_eq_true rfl), (by exact Nat.le_of_ble_eq_true rfl)⟩ dX4_step_4 (by rintro v w ⟨rfl, rfl⟩; rfl) (fun _ _ h => h.elim) (fun _ _ h => h.elim) ?_
  rintro r w ⟨rfl, rfl⟩
  refine zs_eq (wl' := zb_W (g, q, t, d)) (st' := [.int t.1]) (zb_upT0 (g, q, t, d)) rfl rfl rfl ?_
  refine zs_if_ne (tgt := 20) B dX4_step_7 (by decide) (fun hon => ?_) (fun hon => ?_)
  · refine zs_aload_n B dX4_step_20 (i := 0) rfl rfl ?_
    refine zs_get B fX4_step_26 rfl rfl dX4_step_21 ?_
    refine zs_callV (n := 0) [66] B (zt_nextPlace hl D dA t) gX4_step_X3_nextPlace rfl ⟨rfl, by decide, by decide, by decide +kernel⟩ rfl (by rfl) rfl rfl rfl (by rfl) ⟨(by exact Nat.le_of_ble_eq_true rfl), (by exact Nat.le_of_ble_eq_true rfl)⟩ (by exact Nat.le_of_ble_eq_true rfl) ⟨(by exact Nat.le_of_ble_eq_true rfl), (by exact Nat.le_of_ble_eq_true rfl)⟩ dX4_step_24 (by rintro v w ⟨rfl, rfl⟩; rfl) (fun _ _ h => h.elim) (fun _ _ h => h.elim) ?_
    rintro r w ⟨rfl, rfl⟩
    refine zs_eq (wl' := zb_W (g, q, t, d)) (st' := [.int t.2.2.1]) (zb_upT0 (g, q, t, d)) rfl rfl rfl ?_
    refine zs_istore_n B dX4_step_27 (i := 1) rfl (by decide) rfl ?_
    refine zs_aload_n B dX4_step_28 (i := 0) rfl rfl ?_
    refine zs_get B fX4_step_10 rfl rfl dX4_step_29 ?_
    refine zs_aload_n B dX4_step_32 (i := 0) rfl rfl ?_
    refine zs_get B fX4_step_26 rfl rfl dX4_step_33 ?_
    refine zs_callV (n := 0) [66] B (zt_order hl D dA t h5.2.1) gX4_step_X3_order rfl ⟨rfl, by decide, by decide, by decide +kernel⟩ rfl (by rfl) rfl rfl rfl (by rfl) ⟨(by exact Nat.le_of_ble_eq_true rfl), (by exact Nat.le_of_ble_eq_true rfl)⟩ (by exact Nat.le_of_ble_eq_true rfl) ⟨(by exact Nat.le_of_ble_eq_true rfl), (by exact Nat.le_of_ble_eq_true rfl)⟩ dX4_step_36 (by rintro v w ⟨rfl, rfl⟩; rfl) (fun _ _ h => h.elim) (fun _ _ h => h.elim) ?_
    rintro r w ⟨rfl, rfl⟩
    refine zs_eq (wl' := zb_W (g, q, t, d)) (st' := [.int t.2.1, .ref 1]) (zb_upT0 (g, q, t, d)) rfl rfl rfl ?_
    refine zs_callV (n := 1) [1, 2, 3, 4, 5, 6, 7] B (zp_rowM hl D dA g t.2.1) gX4_step_X0_row rfl ⟨rfl, by decide, by decide, by decide +kernel⟩ rfl (by rfl) rfl rfl rfl (by rfl) ⟨(by exact Nat.le_of_ble_eq_true rfl), (by exact Nat.le_of_ble_eq_true rfl)⟩ (by exact Nat.le_of_ble_eq_true rfl) ⟨(by exact Nat.le_of_ble_eq_true rfl), (by exact Nat.le_of_ble_eq_true rfl)⟩ dX4_step_39 (by rintro v w ⟨rfl, rfl⟩; rfl) (fun _ _ h => h.elim) (fun _ _ h => h.elim) ?_
    rintro r w ⟨rfl, rfl⟩
    have hrow := zp_row_R h1 t.2.1
    have h12 := hrow.len
    by_cases h9 : t.2.1 = 97
    · rw [if_pos h9] at hrow ⊢
      have hd12 : g.2.1.1 ≤ 12 := by rw [hrow.1]; exact h12
      refine zs_eq (wl' := zb_W (g, q, t, d)) (st' := [.ref 5]) (zb_upP (g, q, t, d) g) rfl rfl rfl ?_
      refine zs_iload_n B dX4_step_42 (i := 1) rfl rfl ?_
      refine zs_callV (n := 1) [5, 6, 7] B (zr_holdsPlace hl D dA g.2.1 hd12 t.2.2.1) gX4_step_X2_holdsPlace rfl ⟨rfl, by decide, by decide, by decide +kernel⟩ rfl (by rfl) rfl rfl rfl (by rfl) ⟨(by exact Nat.le_of_ble_eq_true rfl), (by exact Nat.le_of_ble_eq_true rfl)⟩ (by exact Nat.le_of_ble_eq_true rfl) ⟨(by exact Nat.le_of_ble_eq_true rfl), (by exact Nat.le_of_ble_eq_true rfl)⟩ dX4_step_43 (by rintro v w ⟨rfl, rfl⟩; rfl) (fun _ _ h => h.elim) (fun _ _ h => h.elim) ?_
      rintro r w ⟨rfl, rfl⟩
      refine zs_eq (wl' := zb_W (g, q, t, d)) (st' := [.int (zf_b (zf_ix t.2.2.1 (zp_row S t.2.1).length).isSome)]) (zb_upA (g, q, t, d) g.2.1) rfl (by rw [← hrow.1]; rfl) rfl ?_
      refine zs_if_ne (tgt := 59) B dX4_step_46 (by decide) (fun hh => ?_) (fun hh => ?_)
      · refine zs_aload_n B dX4_step_59 (i := 0) rfl rfl ?_
        refine zs_get B fX4_step_26 rfl rfl dX4_step_60 ?_
        refine zs_callV (n := 0) [66] B (zt_goOver hl D dA t) gX4_step_X3_goOver rfl ⟨rfl, by decide, by decide, by decide +kernel⟩ rfl (by rfl) rfl rfl rfl (by rfl) ⟨(by exact Nat.le_of_ble_eq_true rfl), (by exact Nat.le_of_ble_eq_true rfl)⟩ (by exact Nat.le_of_ble_eq_true rfl) ⟨(by exact Nat.le_of_ble_eq_true rfl), (by exact Nat.le_of_ble_eq_true rfl)⟩ dX4_step_63 (by rintro v w ⟨rfl, rfl⟩; rfl) (fun _ _ h => h.elim) (fun _ _ h => h.elim) ?_
        rintro r w ⟨rfl, rfl⟩
        obtain ⟨t2, ht2⟩ : ∃ t2 : zt_D, t2 = (t.1, t.2.1, t.2.2.1 + 1, 1) := ⟨_, rfl⟩
        refine zs_eq (wl' := zb_W (g, q, t2, d)) (st' := []) (by rw [ht2]; exact zb_upT (g, q, t, d) _) rfl rfl rfl ?_
        refine zs_aload_n B dX4_step_66 (i := 0) rfl rfl ?_
        refine zs_get B fX4_step_10 rfl rfl dX4_step_67 ?_
        refine zs_aload_n B dX4_step_70 (i := 0) rfl rfl ?_
        refine zs_get B fX4_step_26 rfl rfl dX4_step_71 ?_
        refine zs_callV (n := 0) [66] B (zt_order hl D dA t2 (by rw [ht2]; exact h5.2.1)) gX4_step_X3_order rfl ⟨rfl, by decide, by decide, by decide +kernel⟩ rfl (by rfl) rfl rfl rfl (by rfl) ⟨(by exact Nat.le_of_ble_eq_true rfl), (by exact Nat.le_of_ble_eq_true rfl)⟩ (by exact Nat.le_of_ble_eq_true rfl) ⟨(by exact Nat.le_of_ble_eq_true rfl), (by exact Nat.le_of_ble_eq_true rfl)⟩ dX4_step_74 (by rintro v w ⟨rfl, rfl⟩; rfl) (fun _ _ h => h.elim) (fun _ _ h => h.elim) ?_
        rintro r w ⟨rfl, rfl⟩
        refine zs_eq (wl' := zb_W (g, q, t2, d)) (st' := [.int t.2.1, .ref 1]) (zb_upT0 (g, q, t2, d)) rfl (by rw [ht2]; rfl) rfl ?_
        refine zs_callV (n := 1) [1, 2, 3, 4, 5, 6, 7] B (zp_rowM hl D dA g t.2.1) gX4_step_X0_row rfl ⟨rfl, by decide, by decide, by decide +kernel⟩ rfl (by rfl) rfl rfl rfl (by rfl) ⟨(by exact Nat.le_of_ble_eq_true rfl), (by exact Nat.le_of_ble_eq_true rfl)⟩ (by exact Nat.le_of_ble_eq_true rfl) ⟨(by exact Nat.le_of_ble_eq_true rfl), (by exact Nat.le_of_ble_eq_true rfl)⟩ dX4_step_77 (by rintro v w ⟨rfl, rfl⟩; rfl) (fun _ _ h => h.elim) (fun _ _ h => h.elim) ?_
        rintro r w ⟨rfl, rfl⟩
        rw [if_pos h9]
        refine zs_eq (wl' := zb_W (g, q, t2, d)) (st' := [.ref 5]) (zb_upP (g, q, t2, d) g) rfl rfl rfl ?_
        refine zs_iload_n B dX4_step_80 (i := 1) rfl rfl ?_
        refine zs_callV (n := 1) [5, 6, 7] B (zr_keyIn hl D dA g.2.1 (zp_row S t.2.1) hrow t.2.2.1) gX4_step_X2_keyIn rfl ⟨rfl, by decide, by decide, by decide +kernel⟩ rfl (by rfl) rfl rfl rfl (by rfl) ⟨(by exact Nat.le_of_ble_eq_true rfl), (by exact Nat.le_of_ble_eq_true rfl)⟩ (by exact Nat.le_of_ble_eq_true rfl) ⟨(by exact Nat.le_of_ble_eq_true rfl), (by exact Nat.le_of_ble_eq_true rfl)⟩ dX4_step_81 (by rintro v w ⟨rfl, rfl⟩; rfl) (fun _ _ h => h.elim) (fun _ _ h => h.elim) ?_
        rintro r w ⟨rfl, rfl⟩
        refine zs_eq (wl' := zb_W (g, q, t2, d)) (st' := [.int (zl_key (zp_row S t.2.1) (zf_ix t.2.2.1 (zp_row S t.2.1).length))]) (zb_upA (g, q, t2, d) g.2.1) rfl rfl rfl ?_
        refine zs_zret hA B rfl rfl (by decide) (by decide) ⟨hon, zf_b_ne hh, rfl, (g, q, t2, d), ⟨h1, h2, h3, ht2.symm, ?_⟩, rfl⟩ dX4_step_84
        show zt_ok (t.1, t.2.1, t.2.2.1 + 1, 1)
        exact ⟨h5.1, h5.2.1, (by decide : narrow .boolean (.int 1) = .int 1)⟩
      · refine zs_throwN hA B (cls := zE_n) (text := "the walk has gone over all") (fr := 7) rfl (by decide) (by decide +kernel) (by decide +kernel) (by decide +kernel) (by decide +kernel) (by decide +kernel) (by decide +kernel) (by decide +kernel) (by decide +kernel) dX4_step_49 dX4_step_52 dX4_step_53 dX4_step_55 dX4_step_58 (by exact Nat.le_of_ble_eq_true rfl) (by exact Nat.le_of_ble_eq_true rfl) (by exact Nat.le_of_ble_eq_true rfl) ?_
        exact ⟨rfl, Or.inr ⟨rfl, hon, by rw [show (zf_ix t.2.2.1 (zp_row S t.2.1).length).isSome = false from zf_b_eq hh]; decide⟩⟩
    · rw [if_neg h9] at hrow ⊢
      have hd12 : g.1.1 ≤ 12 := by rw [hrow.1]; exact h12
      refine zs_eq (wl' := zb_W (g, q, t, d)) (st' := [.ref 2]) (zb_upP (g, q, t, d) g) rfl rfl rfl ?_
      refine zs_iload_n B dX4_step_42 (i := 1) rfl rfl ?_
      refine zs_callV (n := 1) [2, 3, 4] B (zr_holdsPlace hl D dA g.1 hd12 t.2.2.1) gX4_step_X2_holdsPlace rfl ⟨rfl, by decide, by decide, by decide +kernel⟩ rfl (by rfl) rfl rfl rfl (by rfl) ⟨(by exact Nat.le_of_ble_eq_true rfl), (by exact Nat.le_of_ble_eq_true rfl)⟩ (by exact Nat.le_of_ble_eq_true rfl) ⟨(by exact Nat.le_of_ble_eq_true rfl), (by exact Nat.le_of_ble_eq_true rfl)⟩ dX4_step_43 (by rintro v w ⟨rfl, rfl⟩; rfl) (fun _ _ h => h.elim) (fun _ _ h => h.elim) ?_
      rintro r w ⟨rfl, rfl⟩
      refine zs_eq (wl' := zb_W (g, q, t, d)) (st' := [.int (zf_b (zf_ix t.2.2.1 (zp_row S t.2.1).length).isSome)]) (zb_upC (g, q, t, d) g.1) rfl (by rw [← hrow.1]; rfl) rfl ?_
      refine zs_if_ne (tgt := 59) B dX4_step_46 (by decide) (fun hh => ?_) (fun hh => ?_)
      · refine zs_aload_n B dX4_step_59 (i := 0) rfl rfl ?_
        refine zs_get B fX4_step_26 rfl rfl dX4_step_60 ?_
        refine zs_callV (n := 0) [66] B (zt_goOver hl D dA t) gX4_step_X3_goOver rfl ⟨rfl, by decide, by decide, by decide +kernel⟩ rfl (by rfl) rfl rfl rfl (by rfl) ⟨(by exact Nat.le_of_ble_eq_true rfl), (by exact Nat.le_of_ble_eq_true rfl)⟩ (by exact Nat.le_of_ble_eq_true rfl) ⟨(by exact Nat.le_of_ble_eq_true rfl), (by exact Nat.le_of_ble_eq_true rfl)⟩ dX4_step_63 (by rintro v w ⟨rfl, rfl⟩; rfl) (fun _ _ h => h.elim) (fun _ _ h => h.elim) ?_
        rintro r w ⟨rfl, rfl⟩
        obtain ⟨t2, ht2⟩ : ∃ t2 : zt_D, t2 = (t.1, t.2.1, t.2.2.1 + 1, 1) := ⟨_, rfl⟩
        refine zs_eq (wl' := zb_W (g, q, t2, d)) (st' := []) (by rw [ht2]; exact zb_upT (g, q, t, d) _) rfl rfl rfl ?_
        refine zs_aload_n B dX4_step_66 (i := 0) rfl rfl ?_
        refine zs_get B fX4_step_10 rfl rfl dX4_step_67 ?_
        refine zs_aload_n B dX4_step_70 (i := 0) rfl rfl ?_
        refine zs_get B fX4_step_26 rfl rfl dX4_step_71 ?_
        refine zs_callV (n := 0) [66] B (zt_order hl D dA t2 (by rw [ht2]; exact h5.2.1)) gX4_step_X3_order rfl ⟨rfl, by decide, by decide, by decide +kernel⟩ rfl (by rfl) rfl rfl rfl (by rfl) ⟨(by exact Nat.le_of_ble_eq_true rfl), (by exact Nat.le_of_ble_eq_true rfl)⟩ (by exact Nat.le_of_ble_eq_true rfl) ⟨(by exact Nat.le_of_ble_eq_true rfl), (by exact Nat.le_of_ble_eq_true rfl)⟩ dX4_step_74 (by rintro v w ⟨rfl, rfl⟩; rfl) (fun _ _ h => h.elim) (fun _ _ h => h.elim) ?_
        rintro r w ⟨rfl, rfl⟩
        refine zs_eq (wl' := zb_W (g, q, t2, d)) (st' := [.int t.2.1, .ref 1]) (zb_upT0 (g, q, t2, d)) rfl (by rw [ht2]; rfl) rfl ?_
        refine zs_callV (n := 1) [1, 2, 3, 4, 5, 6, 7] B (zp_rowM hl D dA g t.2.1) gX4_step_X0_row rfl ⟨rfl, by decide, by decide, by decide +kernel⟩ rfl (by rfl) rfl rfl rfl (by rfl) ⟨(by exact Nat.le_of_ble_eq_true rfl), (by exact Nat.le_of_ble_eq_true rfl)⟩ (by exact Nat.le_of_ble_eq_true rfl) ⟨(by exact Nat.le_of_ble_eq_true rfl), (by exact Nat.le_of_ble_eq_true rfl)⟩ dX4_step_77 (by rintro v w ⟨rfl, rfl⟩; rfl) (fun _ _ h => h.elim) (fun _ _ h => h.elim) ?_
        rintro r w ⟨rfl, rfl⟩
        rw [if_neg h9]
        refine zs_eq (wl' := zb_W (g, q, t2, d)) (st' := [.ref 2]) (zb_upP (g, q, t2, d) g) rfl rfl rfl ?_
        refine zs_iload_n B dX4_step_80 (i := 1) rfl rfl ?_
        refine zs_callV (n := 1) [2, 3, 4] B (zr_keyIn hl D dA g.1 (zp_row S t.2.1) hrow t.2.2.1) gX4_step_X2_keyIn rfl ⟨rfl, by decide, by decide, by decide +kernel⟩ rfl (by rfl) rfl rfl rfl (by rfl) ⟨(by exact Nat.le_of_ble_eq_true rfl), (by exact Nat.le_of_ble_eq_true rfl)⟩ (by exact Nat.le_of_ble_eq_true rfl) ⟨(by exact Nat.le_of_ble_eq_true rfl), (by exact Nat.le_of_ble_eq_true rfl)⟩ dX4_step_81 (by rintro v w ⟨rfl, rfl⟩; rfl) (fun _ _ h => h.elim) (fun _ _ h => h.elim) ?_
        rintro r w ⟨rfl, rfl⟩
        refine zs_eq (wl' := zb_W (g, q, t2, d)) (st' := [.int (zl_key (zp_row S t.2.1) (zf_ix t.2.2.1 (zp_row S t.2.1).length))]) (zb_upC (g, q, t2, d) g.1) rfl rfl rfl ?_
        refine zs_zret hA B rfl rfl (by decide) (by decide) ⟨hon, zf_b_ne hh, rfl, (g, q, t2, d), ⟨h1, h2, h3, ht2.symm, ?_⟩, rfl⟩ dX4_step_84
        show zt_ok (t.1, t.2.1, t.2.2.1 + 1, 1)
        exact ⟨h5.1, h5.2.1, (by decide : narrow .boolean (.int 1) = .int 1)⟩
      · refine zs_throwN hA B (cls := zE_n) (text := "the walk has gone over all") (fr := 7) rfl (by decide) (by decide +kernel) (by decide +kernel) (by decide +kernel) (by decide +kernel) (by decide +kernel) (by decide +kernel) (by decide +kernel) (by decide +kernel) dX4_step_49 dX4_step_52 dX4_step_53 dX4_step_55 dX4_step_58 (by exact Nat.le_of_ble_eq_true rfl) (by exact Nat.le_of_ble_eq_true rfl) (by exact Nat.le_of_ble_eq_true rfl) ?_
        exact ⟨rfl, Or.inr ⟨rfl, hon, by rw [show (zf_ix t.2.2.1 (zp_row S t.2.1).length).isSome = false from zf_b_eq hh]; decide⟩⟩
  · refine zs_throw hA B (cls := zE_s) (text := "there is no walk") (fr := 7) rfl (by decide) (by decide +kernel) (by decide +kernel) (by decide +kernel) (by decide +kernel) (by decide +kernel) (by decide +kernel) (by decide +kernel) (by decide +kernel) dX4_step_10 dX4_step_13 dX4_step_14 dX4_step_16 dX4_step_19 (by exact Nat.le_of_ble_eq_true rfl) (by exact Nat.le_of_ble_eq_true rfl) (by exact Nat.le_of_ble_eq_true rfl) ?_
    exact ⟨rfl, Or.inl ⟨rfl, hon⟩⟩
set_option maxHeartbeats 4000000 in
theorem zb_cut {l : Launch} (hl : l.stackTraces = false) (D : va_G) (dA : Nat → ClassId) (x : zb_D) (T : zb_T) (hR : zb_R T x) : zw_Sp l D dA yX4_cut wsX4_cut 7 1 6 [.ref 0] (zb_W x)
    (fun r w => ¬ T.2.2.1 = 0 ∧ ¬ T.2.2.2.2.2 = 0 ∧ ∃ S', S' = zp_take T.1 (zl_key (zp_row T.1 T.2.2.2.1) (zf_ix (T.2.2.2.2.1 - 1) (zp_row T.1 T.2.2.2.1).length)) ∧ r = some (.int (nI S'.1.length)) ∧ ∃ x', zb_R (S', (T.1 :: T.2.1).take 8, (T.2.2.1, T.2.2.2.1, T.2.2.2.2.1 - 1, 0)) x' ∧ w = zb_W x')
    (fun E w => E = zE_s ∧ w = zb_W x ∧ (T.2.2.1 = 0 ∨ T.2.2.2.2.2 = 0)) := by
  refine zw_start hl (by decide) rfl rfl (Nat.le_of_ble_eq_true rfl) ?_
  intro pr e s m args below meth c ad A hA B
  obtain ⟨S, hist, t⟩ := T
  obtain ⟨g, ⟨rg, f, k⟩, t', d⟩ := x
  obtain ⟨h1, h2, h3, h4, h5⟩ := hR
  have h4 : t = t' := h4
  subst h4
  refine zs_aload_n B dX4_cut_0 (i := 0) rfl rfl ?_
  refine zs_get B fX4_cut_26 rfl rfl dX4_cut_1 ?_
  refine zs_callV (n := 0) [66] B (zt_isOn hl D dA t h5.1) gX4_cut_X3_isOn rfl ⟨rfl, by decide, by decide, by decide +kernel⟩ rfl (by rfl) rfl rfl rfl (by rfl) ⟨(by exact Nat.le_of_ble_eq_true rfl), (by exact Nat.le_of_ble_eq_true rfl)⟩ (by exact Nat.le_of_ble_eq_true rfl) ⟨(by exact Nat.le_of_ble_eq_true rfl), (by exact Nat.le_of_ble_eq_true rfl)⟩ dX4_cut_4 (by rintro v w ⟨rfl, rfl⟩; rfl) (fun _ _ h => h.elim) (fun _ _ h => h.elim) ?_
  rintro r w ⟨rfl, rfl⟩
  refine zs_eq (wl' := zb_W (g, (rg, f, k), t, d)) (st' := [.int t.1]) (zb_upT0 (g, (rg, f, k), t, d)) rfl rfl rfl ?_
  refine zs_if_eq (tgt := 20) B dX4_cut_7 (by decide) (fun hon => ?_) (fun hon => ?_)
  · refine zs_throw hA B (cls := zE_s) (text := "there is nothing to cut") (fr := 7) rfl (by decide) (by decide +kernel) (by decide +kernel) (by decide +kernel) (by decide +kernel) (by decide +kernel) (by decide +kernel) (by decide +kernel) (by decide +kernel) dX4_cut_20 dX4_cut_23 dX4_cut_24 dX4_cut_26 dX4_cut_29 (by exact Nat.le_of_ble_eq_true rfl) (by exact Nat.le_of_ble_eq_true rfl) (by exact Nat.le_of_ble_eq_true rfl) ?_
    exact ⟨rfl, rfl, Or.inl hon⟩
  · refine zs_aload_n B dX4_cut_10 (i := 0) rfl rfl ?_
    refine zs_get B fX4_cut_26 rfl rfl dX4_cut_11 ?_
    refine zs_callV (n := 0) [66] B (zt_mayCut hl D dA t h5.2.2) gX4_cut_X3_mayCut rfl ⟨rfl, by decide, by decide, by decide +kernel⟩ rfl (by rfl) rfl rfl rfl (by rfl) ⟨(by exact Nat.le_of_ble_eq_true rfl), (by exact Nat.le_of_ble_eq_true rfl)⟩ (by exact Nat.le_of_ble_eq_true rfl) ⟨(by exact Nat.le_of_ble_eq_true rfl), (by exact Nat.le_of_ble_eq_true rfl)⟩ dX4_cut_14 (by rintro v w ⟨rfl, rfl⟩; rfl) (fun _ _ h => h.elim) (fun _ _ h => h.elim) ?_
    rintro r w ⟨rfl, rfl⟩
    refine zs_eq (wl' := zb_W (g, (rg, f, k), t, d)) (st' := [.int t.2.2.2]) (zb_upT0 (g, (rg, f, k), t, d)) rfl rfl rfl ?_
    refine zs_if_ne (tgt := 30) B dX4_cut_17 (by decide) (fun hmc => ?_) (fun hmc => ?_)
    · refine zs_aload_n B dX4_cut_30 (i := 0) rfl rfl ?_
      refine zs_get B fX4_cut_19 rfl rfl dX4_cut_31 ?_
      refine zs_aload_n B dX4_cut_34 (i := 0) rfl rfl ?_
      refine zs_get B fX4_cut_10 rfl rfl dX4_cut_35 ?_
      refine zs_callV (n := 1) zb_isK B (zq_keep hl D dA rg f k h3.1 (by have a1 : k = hist.length := h3.2.1; have a2 : hist.length ≤ 8 := h3.2.2.1; omega) g S h1 h2) gX4_cut_X1_keep rfl ⟨rfl, by decide, by decide, by decide +kernel⟩ rfl (zb_selK (g, (rg, f, k), t, d)) rfl rfl rfl (by rfl) ⟨(by exact Nat.le_of_ble_eq_true rfl), (by exact Nat.le_of_ble_eq_true rfl)⟩ (by exact Nat.le_of_ble_eq_true rfl) ⟨(by exact Nat.le_of_ble_eq_true rfl), (by exact Nat.le_of_ble_eq_true rfl)⟩ dX4_cut_38 (by rintro v w ⟨rfl, d9, h9, rfl⟩; rfl) (fun _ _ h => h.elim) (fun _ _ h => h.elim) ?_
      rintro v w ⟨rfl, g', hg', rfl⟩
      obtain ⟨q, hq⟩ : ∃ q : zq_D, q = (va_up rg f g', zq_nx f, min (k + 1) 8) := ⟨_, rfl⟩
      have h3' : zb_H ((S :: hist).take 8) q := by rw [hq]; exact h3.keep hg' (zp_ok_of h1 hg' h2)
      refine zs_eq (wl' := zb_W (g, q, t, d)) (st' := []) (by rw [hq]; exact zb_upK (g, (rg, f, k), t, d) _ g) rfl rfl rfl ?_
      refine zs_aload_n B dX4_cut_41 (i := 0) rfl rfl ?_
      refine zs_get B fX4_cut_10 rfl rfl dX4_cut_42 ?_
      refine zs_aload_n B dX4_cut_45 (i := 0) rfl rfl ?_
      refine zs_get B fX4_cut_10 rfl rfl dX4_cut_46 ?_
      refine zs_aload_n B dX4_cut_49 (i := 0) rfl rfl ?_
      refine zs_get B fX4_cut_26 rfl rfl dX4_cut_50 ?_
      refine zs_callV (n := 0) [66] B (zt_order hl D dA t h5.2.1) gX4_cut_X3_order rfl ⟨rfl, by decide, by decide, by decide +kernel⟩ rfl (by rfl) rfl rfl rfl (by rfl) ⟨(by exact Nat.le_of_ble_eq_true rfl), (by exact Nat.le_of_ble_eq_true rfl)⟩ (by exact Nat.le_of_ble_eq_true rfl) ⟨(by exact Nat.le_of_ble_eq_true rfl), (by exact Nat.le_of_ble_eq_true rfl)⟩ dX4_cut_53 (by rintro v w ⟨rfl, rfl⟩; rfl) (fun _ _ h => h.elim) (fun _ _ h => h.elim) ?_
      rintro r w ⟨rfl, rfl⟩
      refine zs_eq (wl' := zb_W (g, q, t, d)) (st' := [.int t.2.1, .ref 1, .ref 1]) (zb_upT0 (g, q, t, d)) rfl rfl rfl ?_
      refine zs_callV (n := 1) [1, 2, 3, 4, 5, 6, 7] B (zp_rowM hl D dA g t.2.1) gX4_cut_X0_row rfl ⟨rfl, by decide, by decide, by decide +kernel⟩ rfl (by rfl) rfl rfl rfl (by rfl) ⟨(by exact Nat.le_of_ble_eq_true rfl), (by exact Nat.le_of_ble_eq_true rfl)⟩ (by exact Nat.le_of_ble_eq_true rfl) ⟨(by exact Nat.le_of_ble_eq_true rfl), (by exact Nat.le_of_ble_eq_true rfl)⟩ dX4_cut_56 (by rintro v w ⟨rfl, rfl⟩; rfl) (fun _ _ h => h.elim) (fun _ _ h => h.elim) ?_
      rintro r w ⟨rfl, rfl⟩
      have hrow := zp_row_R h1 t.2.1
      by_cases h9 : t.2.1 = 97
      · rw [if_pos h9] at hrow ⊢
        refine zs_eq (wl' := zb_W (g, q, t, d)) (st' := [.ref 5, .ref 1]) (zb_upP (g, q, t, d) g) rfl rfl rfl ?_
        refine zs_aload_n B dX4_cut_59 (i := 0) rfl rfl ?_
        refine zs_get B fX4_cut_26 rfl rfl dX4_cut_60 ?_
        refine zs_callV (n := 0) [66] B (zt_nextPlace hl D dA t) gX4_cut_X3_nextPlace rfl ⟨rfl, by decide, by decide, by decide +kernel⟩ rfl (by rfl) rfl rfl rfl (by rfl) ⟨(by exact Nat.le_of_ble_eq_true rfl), (by exact Nat.le_of_ble_eq_true rfl)⟩ (by exact Nat.le_of_ble_eq_true rfl) ⟨(by exact Nat.le_of_ble_eq_true rfl), (by exact Nat.le_of_ble_eq_true rfl)⟩ dX4_cut_63 (by rintro v w ⟨rfl, rfl⟩; rfl) (fun _ _ h => h.elim) (fun _ _ h => h.elim) ?_
        rintro r w ⟨rfl, rfl⟩
        refine zs_eq (wl' := zb_W (g, q, t, d)) (st' := [.int t.2.2.1, .ref 5, .ref 1]) (zb_upT0 (g, q, t, d)) rfl rfl rfl ?_
        refine zs_iconst (v := 1) B dX4_cut_66 (by decide) ?_
        refine zs_isub B dX4_cut_67 ?_
        refine zs_callV (n := 1) [5, 6, 7] B (zr_keyIn hl D dA g.2.1 (zp_row S t.2.1) hrow (t.2.2.1 - 1)) gX4_cut_X2_keyIn rfl ⟨rfl, by decide, by decide, by decide +kernel⟩ rfl (by rfl) rfl rfl rfl (by rfl) ⟨(by exact Nat.le_of_ble_eq_true rfl), (by exact Nat.le_of_ble_eq_true rfl)⟩ (by exact Nat.le_of_ble_eq_true rfl) ⟨(by exact Nat.le_of_ble_eq_true rfl), (by exact Nat.le_of_ble_eq_true rfl)⟩ dX4_cut_68 (by rintro v w ⟨rfl, rfl⟩; rfl) (fun _ _ h => h.elim) (fun _ _ h => h.elim) ?_
        rintro r w ⟨rfl, rfl⟩
        refine zs_eq (wl' := zb_W (g, q, t, d)) (st' := [.int (zl_key (zp_row S t.2.1) (zf_ix (t.2.2.1 - 1) (zp_row S t.2.1).length)), .ref 1]) (zb_upA (g, q, t, d) g.2.1) rfl rfl rfl ?_
        refine zs_callV (n := 1) [1, 2, 3, 4, 5, 6, 7] B (zp_takeOut hl D dA g S h1 (zl_key (zp_row S t.2.1) (zf_ix (t.2.2.1 - 1) (zp_row S t.2.1).length))) gX4_cut_X0_takeOut rfl ⟨rfl, by decide, by decide, by decide +kernel⟩ rfl (by rfl) rfl rfl rfl (by rfl) ⟨(by exact Nat.le_of_ble_eq_true rfl), (by exact Nat.le_of_ble_eq_true rfl)⟩ (by exact Nat.le_of_ble_eq_true rfl) ⟨(by exact Nat.le_of_ble_eq_true rfl), (by exact Nat.le_of_ble_eq_true rfl)⟩ dX4_cut_71 (by rintro v w ⟨rfl, d9, h9, rfl⟩; rfl) (fun _ _ h => h.elim) (fun _ _ h => h.elim) ?_
        rintro r w ⟨rfl, g1, hg1, rfl⟩
        refine zs_eq (wl' := zb_W (g1, q, t, d)) (st' := []) (zb_upP (g, q, t, d) g1) rfl rfl rfl ?_
        refine zs_aload_n B dX4_cut_74 (i := 0) rfl rfl ?_
        refine zs_get B fX4_cut_26 rfl rfl dX4_cut_75 ?_
        refine zs_callV (n := 0) [66] B (zt_goBack hl D dA t) gX4_cut_X3_goBack rfl ⟨rfl, by decide, by decide, by decide +kernel⟩ rfl (by rfl) rfl rfl rfl (by rfl) ⟨(by exact Nat.le_of_ble_eq_true rfl), (by exact Nat.le_of_ble_eq_true rfl)⟩ (by exact Nat.le_of_ble_eq_true rfl) ⟨(by exact Nat.le_of_ble_eq_true rfl), (by exact Nat.le_of_ble_eq_true rfl)⟩ dX4_cut_78 (by rintro v w ⟨rfl, rfl⟩; rfl) (fun _ _ h => h.elim) (fun _ _ h => h.elim) ?_
        rintro r w ⟨rfl, rfl⟩
        refine zs_eq (wl' := zb_W (g1, q, (t.1, t.2.1, t.2.2.1 - 1, 0), d)) (st' := []) (zb_upT (g1, q, t, d) _) rfl rfl rfl ?_
        refine zs_aload_n B dX4_cut_81 (i := 0) rfl rfl ?_
        refine zs_get B fX4_cut_10 rfl rfl dX4_cut_82 ?_
        refine zs_getN B fX4_cut_69 rfl rfl dX4_cut_85 ?_
        refine zs_callV (n := 0) [2, 3, 4] B (zr_count hl D dA g1.1) gX4_cut_X2_count rfl ⟨rfl, by decide, by decide, by decide +kernel⟩ rfl (by rfl) rfl rfl rfl (by rfl) ⟨(by exact Nat.le_of_ble_eq_true rfl), (by exact Nat.le_of_ble_eq_true rfl)⟩ (by exact Nat.le_of_ble_eq_true rfl) ⟨(by exact Nat.le_of_ble_eq_true rfl), (by exact Nat.le_of_ble_eq_true rfl)⟩ dX4_cut_88 (by rintro v w ⟨rfl, rfl⟩; rfl) (fun _ _ h => h.elim) (fun _ _ h => h.elim) ?_
        rintro r w ⟨rfl, rfl⟩
        refine zs_eq (wl' := zb_W (g1, q, (t.1, t.2.1, t.2.2.1 - 1, 0), d)) (st' := [.int (nI (zp_take S (zl_key (zp_row S t.2.1) (zf_ix (t.2.2.1 - 1) (zp_row S t.2.1).length))).1.length)]) (zb_upC (g1, q, (t.1, t.2.1, t.2.2.1 - 1, 0), d) g1.1) rfl (by rw [← hg1.1.1]; rfl) rfl ?_
        refine zs_zret hA B rfl rfl (by decide) (by decide) ⟨hon, hmc, _, rfl, rfl, (g1, q, (t.1, t.2.1, t.2.2.1 - 1, 0), d), ⟨hg1, zp_ok_same h1 hg1 rfl h2, h3', rfl, ?_⟩, rfl⟩ dX4_cut_91
        show zt_ok (t.1, t.2.1, t.2.2.1 - 1, 0)
        exact ⟨h5.1, h5.2.1, (by decide : narrow .boolean (.int 0) = .int 0)⟩
      · rw [if_neg h9] at hrow ⊢
        refine zs_eq (wl' := zb_W (g, q, t, d)) (st' := [.ref 2, .ref 1]) (zb_upP (g, q, t, d) g) rfl rfl rfl ?_
        refine zs_aload_n B dX4_cut_59 (i := 0) rfl rfl ?_
        refine zs_get B fX4_cut_26 rfl rfl dX4_cut_60 ?_
        refine zs_callV (n := 0) [66] B (zt_nextPlace hl D dA t) gX4_cut_X3_nextPlace rfl ⟨rfl, by decide, by decide, by decide +kernel⟩ rfl (by rfl) rfl rfl rfl (by rfl) ⟨(by exact Nat.le_of_ble_eq_true rfl), (by exact Nat.le_of_ble_eq_true rfl)⟩ (by exact Nat.le_of_ble_eq_true rfl) ⟨(by exact Nat.le_of_ble_eq_true rfl), (by exact Nat.le_of_ble_eq_true rfl)⟩ dX4_cut_63 (by rintro v w ⟨rfl, rfl⟩; rfl) (fun _ _ h => h.elim) (fun _ _ h => h.elim) ?_
        rintro r w ⟨rfl, rfl⟩
        refine zs_eq (wl' := zb_W (g, q, t, d)) (st' := [.int t.2.2.1, .ref 2, .ref 1]) (zb_upT0 (g, q, t, d)) rfl rfl rfl ?_
        refine zs_iconst (v := 1) B dX4_cut_66 (by decide) ?_
        refine zs_isub B dX4_cut_67 ?_
        refine zs_callV (n := 1) [2, 3, 4] B (zr_keyIn hl D dA g.1 (zp_row S t.2.1) hrow (t.2.2.1 - 1)) gX4_cut_X2_keyIn rfl ⟨rfl, by decide, by decide, by decide +kernel⟩ rfl (by rfl) rfl rfl rfl (by rfl) ⟨(by exact Nat.le_of_ble_eq_true rfl), (by exact Nat.le_of_ble_eq_true rfl)⟩ (by exact Nat.le_of_ble_eq_true rfl) ⟨(by exact Nat.le_of_ble_eq_true rfl), (by exact Nat.le_of_ble_eq_true rfl)⟩ dX4_cut_68 (by rintro v w ⟨rfl, rfl⟩; rfl) (fun _ _ h => h.elim) (fun _ _ h => h.elim) ?_
        rintro r w ⟨rfl, rfl⟩
        refine zs_eq (wl' := zb_W (g, q, t, d)) (st' := [.int (zl_key (zp_row S t.2.1) (zf_ix (t.2.2.1 - 1) (zp_row S t.2.1).length)), .ref 1]) (zb_upC (g, q, t, d) g.1) rfl rfl rfl ?_
        refine zs_callV (n := 1) [1, 2, 3, 4, 5, 6, 7] B (zp_takeOut hl D dA g S h1 (zl_key (zp_row S t.2.1) (zf_ix (t.2.2.1 - 1) (zp_row S t.2.1).length))) gX4_cut_X0_takeOut rfl ⟨rfl, by decide, by decide, by decide +kernel⟩ rfl (by rfl) rfl rfl rfl (by rfl) ⟨(by exact Nat.le_of_ble_eq_true rfl), (by exact Nat.le_of_ble_eq_true rfl)⟩ (by exact Nat.le_of_ble_eq_true rfl) ⟨(by exact Nat.le_of_ble_eq_true rfl), (by exact Nat.le_of_ble_eq_true rfl)⟩ dX4_cut_71 (by rintro v w ⟨rfl, d9, h9, rfl⟩; rfl) (fun _ _ h => h.elim) (fun _ _ h => h.elim) ?_
        rintro r w ⟨rfl, g1, hg1, rfl⟩
        refine zs_eq (wl' := zb_W (g1, q, t, d)) (st' := []) (zb_upP (g, q, t, d) g1) rfl rfl rfl ?_
        refine zs_aload_n B dX4_cut_74 (i := 0) rfl rfl ?_
        refine zs_get B fX4_cut_26 rfl rfl dX4_cut_75 ?_
        refine zs_callV (n := 0) [66] B (zt_goBack hl D dA t) gX4_cut_X3_goBack rfl ⟨rfl, by decide, by decide, by decide +kernel⟩ rfl (by rfl) rfl rfl rfl (by rfl) ⟨(by exact Nat.le_of_ble_eq_true rfl), (by exact Nat.le_of_ble_eq_true rfl)⟩ (by exact Nat.le_of_ble_eq_true rfl) ⟨(by exact Nat.le_of_ble_eq_true rfl), (by exact Nat.le_of_ble_eq_true rfl)⟩ dX4_cut_78 (by rintro v w ⟨rfl, rfl⟩; rfl) (fun _ _ h => h.elim) (fun _ _ h => h.elim) ?_
        rintro r w ⟨rfl, rfl⟩
        refine zs_eq (wl' := zb_W (g1, q, (t.1, t.2.1, t.2.2.1 - 1, 0), d)) (st' := []) (zb_upT (g1, q, t, d) _) rfl rfl rfl ?_
        refine zs_aload_n B dX4_cut_81 (i := 0) rfl rfl ?_
        refine zs_get B fX4_cut_10 rfl rfl dX4_cut_82 ?_
        refine zs_getN B fX4_cut_69 rfl rfl dX4_cut_85 ?_
        refine zs_callV (n := 0) [2, 3, 4] B (zr_count hl D dA g1.1) gX4_cut_X2_count rfl ⟨rfl, by decide, by decide, by decide +kernel⟩ rfl (by rfl) rfl rfl rfl (by rfl) ⟨(by exact Nat.le_of_ble_eq_true rfl), (by exact Nat.le_of_ble_eq_true rfl)⟩ (by exact Nat.le_of_ble_eq_true rfl) ⟨(by exact Nat.le_of_ble_eq_true rfl), (by exact Nat.le_of_ble_eq_true rfl)⟩ dX4_cut_88 (by rintro v w ⟨rfl, rfl⟩; rfl) (fun _ _ h => h.elim) (fun _ _ h => h.elim) ?_
        rintro r w ⟨rfl, rfl⟩
        refine zs_eq (wl' := zb_W (g1, q, (t.1, t.2.1, t.2.2.1 - 1, 0), d)) (st' := [.int (nI (zp_take S (zl_key (zp_row S t.2.1) (zf_ix (t.2.2.1 - 1) (zp_row S t.2.1).length))).1.length)]) (zb_upC (g1, q, (t.1, t.2.1, t.2.2.1 - 1, 0), d) g1.1) rfl (by rw [← hg1.1.1]; rfl) rfl ?_
        refine zs_zret hA B rfl rfl (by decide) (by decide) ⟨hon, hmc, _, rfl, rfl, (g1, q, (t.1, t.2.1, t.2.2.1 - 1, 0), d), ⟨hg1, zp_ok_same h1 hg1 rfl h2, h3', rfl, ?_⟩, rfl⟩ dX4_cut_91
        show zt_ok (t.1, t.2.1, t.2.2.1 - 1, 0)
        exact ⟨h5.1, h5.2.1, (by decide : narrow .boolean (.int 0) = .int 0)⟩
    · refine zs_throw hA B (cls := zE_s) (text := "there is nothing to cut") (fr := 7) rfl (by decide) (by decide +kernel) (by decide +kernel) (by decide +kernel) (by decide +kernel) (by decide +kernel) (by decide +kernel) (by decide +kernel) (by decide +kernel) dX4_cut_20 dX4_cut_23 dX4_cut_24 dX4_cut_26 dX4_cut_29 (by exact Nat.le_of_ble_eq_true rfl) (by exact Nat.le_of_ble_eq_true rfl) (by exact Nat.le_of_ble_eq_true rfl) ?_
      exact ⟨rfl, rfl, Or.inr hmc⟩
set_option maxHeartbeats 4000000 in
theorem zb_moves {l : Launch} (hl : l.stackTraces = false) (D : va_G) (dA : Nat → ClassId) (x : zb_D) (T : zb_T) (hR : zb_R T x) : zw_Sp l D dA yX4_moves wsX4_moves 7 0 0 [.ref 0] (zb_W x)
    (fun r w => r = some (.int (nI T.1.1.length - nI (zl_stay T.1.1 T.1.2.1 (-1)))) ∧ w = zb_W x) (fun _ _ => False) := by
  refine zw_start hl (by decide) rfl rfl (Nat.le_of_ble_eq_true rfl) ?_
  intro pr e s m args below meth c ad A hA B
  refine zs_aload_n B dX4_moves_0 (i := 0) rfl rfl ?_
  refine zs_get B fX4_moves_10 rfl rfl dX4_moves_1 ?_
  refine zs_getN B fX4_moves_69 rfl rfl dX4_moves_4 ?_
  refine zs_callV (n := 0) [2, 3, 4] B (zr_count hl D dA x.1.1) gX4_moves_X2_count rfl ⟨rfl, by decide, by decide, by decide +kernel⟩ rfl (by rfl) rfl rfl rfl (by rfl) ⟨(by exact Nat.le_of_ble_eq_true rfl), (by exact Nat.le_of_ble_eq_true rfl)⟩ (by exact Nat.le_of_ble_eq_true rfl) ⟨(by exact Nat.le_of_ble_eq_true rfl), (by exact Nat.le_of_ble_eq_true rfl)⟩ dX4_moves_7 (by rintro v w ⟨rfl, rfl⟩; rfl) (fun _ _ h => h.elim) (fun _ _ h => h.elim) ?_
  rintro r w ⟨rfl, rfl⟩
  refine zs_eq (wl' := zb_W x) (st' := [.int (nI T.1.1.length)]) (zb_upC x x.1.1) rfl (by rw [← hR.1.1.1]; rfl) rfl ?_
  refine zs_aload_n B dX4_moves_10 (i := 0) rfl rfl ?_
  refine zs_get B fX4_moves_10 rfl rfl dX4_moves_11 ?_
  refine zs_callV (n := 0) [1, 2, 3, 4, 5, 6, 7] B (zp_staying hl D dA x.1 T.1 hR.1) gX4_moves_X0_staying rfl ⟨rfl, by decide, by decide, by decide +kernel⟩ rfl (by rfl) rfl rfl rfl (by rfl) ⟨(by exact Nat.le_of_ble_eq_true rfl), (by exact Nat.le_of_ble_eq_true rfl)⟩ (by exact Nat.le_of_ble_eq_true rfl) ⟨(by exact Nat.le_of_ble_eq_true rfl), (by exact Nat.le_of_ble_eq_true rfl)⟩ dX4_moves_14 (by rintro v w ⟨rfl, rfl⟩; rfl) (fun _ _ h => h.elim) (fun _ _ h => h.elim) ?_
  rintro r w ⟨rfl, rfl⟩
  refine zs_eq (wl' := zb_W x) (st' := [.int (nI (zl_stay T.1.1 T.1.2.1 (-1))), .int (nI T.1.1.length)]) (zb_upP x x.1) rfl rfl rfl ?_
  refine zs_isub B dX4_moves_17 ?_
  exact zs_zret hA B rfl rfl (by decide) (by decide) ⟨rfl, rfl⟩ dX4_moves_18
set_option maxHeartbeats 4000000 in
theorem zb_move {l : Launch} (hl : l.stackTraces = false) (D : va_G) (dA : Nat → ClassId) (x : zb_D) (T : zb_T) (hR : zb_R T x) (i : Int32) : zw_Sp l D dA yX4_move wsX4_move 7 1 6 [.ref 0, .int i] (zb_W x)
    (fun r w => r = some (.int (zl_key T.1.2.1 (zf_ix (nI (zl_stay T.1.1 T.1.2.1 (-1)) + i) T.1.2.1.length))) ∧ w = zb_W x ∧ ¬ i < 0 ∧ i < nI T.1.1.length - nI (zl_stay T.1.1 T.1.2.1 (-1))) (fun E w => E = zE_i ∧ w = zb_W x ∧ (i < 0 ∨ ¬ i < nI T.1.1.length - nI (zl_stay T.1.1 T.1.2.1 (-1)))) := by
  refine zw_start hl (by decide) rfl rfl (Nat.le_of_ble_eq_true rfl) ?_
  intro pr e s m args below meth c ad A hA B
  refine zs_aload_n B dX4_move_0 (i := 0) rfl rfl ?_
  refine zs_get B fX4_move_10 rfl rfl dX4_move_1 ?_
  refine zs_callV (n := 0) [1, 2, 3, 4, 5, 6, 7] B (zp_staying hl D dA x.1 T.1 hR.1) gX4_move_X0_staying rfl ⟨rfl, by decide, by decide, by decide +kernel⟩ rfl (by rfl) rfl rfl rfl (by rfl) ⟨(by exact Nat.le_of_ble_eq_true rfl), (by exact Nat.le_of_ble_eq_true rfl)⟩ (by exact Nat.le_of_ble_eq_true rfl) ⟨(by exact Nat.le_of_ble_eq_true rfl), (by exact Nat.le_of_ble_eq_true rfl)⟩ dX4_move_4 (by rintro v w ⟨rfl, rfl⟩; rfl) (fun _ _ h => h.elim) (fun _ _ h => h.elim) ?_
  rintro r w ⟨rfl, rfl⟩
  refine zs_eq (wl' := zb_W x) (st' := [.int (nI (zl_stay T.1.1 T.1.2.1 (-1)))]) (zb_upP x x.1) rfl rfl rfl ?_
  refine zs_istore_n B dX4_move_7 (i := 2) rfl (by decide) rfl ?_
  refine zs_iload_n B dX4_move_8 (i := 1) rfl rfl ?_
  refine zs_if_lt (tgt := 28) B dX4_move_9 (by decide) (fun h => ?_) (fun h => ?_)
  · refine zs_throw hA B (cls := zE_i) (text := "there is no such move") (fr := 7) rfl (by decide) (by decide +kernel) (by decide +kernel) (by decide +kernel) (by decide +kernel) (by decide +kernel) (by decide +kernel) (by decide +kernel) (by decide +kernel) dX4_move_28 dX4_move_31 dX4_move_32 dX4_move_34 dX4_move_37 (by exact Nat.le_of_ble_eq_true rfl) (by exact Nat.le_of_ble_eq_true rfl) (by exact Nat.le_of_ble_eq_true rfl) ?_
    exact ⟨rfl, rfl, Or.inl h⟩
  · refine zs_iload_n B dX4_move_12 (i := 1) rfl rfl ?_
    refine zs_aload_n B dX4_move_13 (i := 0) rfl rfl ?_
    refine zs_get B fX4_move_10 rfl rfl dX4_move_14 ?_
    refine zs_getN B fX4_move_69 rfl rfl dX4_move_17 ?_
    refine zs_callV (n := 0) [2, 3, 4] B (zr_count hl D dA x.1.1) gX4_move_X2_count rfl ⟨rfl, by decide, by decide, by decide +kernel⟩ rfl (by rfl) rfl rfl rfl (by rfl) ⟨(by exact Nat.le_of_ble_eq_true rfl), (by exact Nat.le_of_ble_eq_true rfl)⟩ (by exact Nat.le_of_ble_eq_true rfl) ⟨(by exact Nat.le_of_ble_eq_true rfl), (by exact Nat.le_of_ble_eq_true rfl)⟩ dX4_move_20 (by rintro v w ⟨rfl, rfl⟩; rfl) (fun _ _ h => h.elim) (fun _ _ h => h.elim) ?_
    rintro r w ⟨rfl, rfl⟩
    refine zs_eq (wl' := zb_W x) (st' := [.int (nI T.1.1.length), .int i]) (zb_upC x x.1.1) rfl (by rw [← hR.1.1.1]; rfl) rfl ?_
    refine zs_iload_n B dX4_move_23 (i := 2) rfl rfl ?_
    refine zs_isub B dX4_move_24 ?_
    refine zs_icmp_lt (tgt := 38) B dX4_move_25 (by decide) (fun h2 => ?_) (fun h2 => ?_)
    · refine zs_aload_n B dX4_move_38 (i := 0) rfl rfl ?_
      refine zs_get B fX4_move_10 rfl rfl dX4_move_39 ?_
      refine zs_getN B fX4_move_170 rfl rfl dX4_move_42 ?_
      refine zs_iload_n B dX4_move_45 (i := 2) rfl rfl ?_
      refine zs_iload_n B dX4_move_46 (i := 1) rfl rfl ?_
      refine zs_iadd B dX4_move_47 ?_
      refine zs_callV (n := 1) [5, 6, 7] B (zr_keyIn hl D dA x.1.2.1 T.1.2.1 hR.1.2.1 (nI (zl_stay T.1.1 T.1.2.1 (-1)) + i)) gX4_move_X2_keyIn rfl ⟨rfl, by decide, by decide, by decide +kernel⟩ rfl (by rfl) rfl rfl rfl (by rfl) ⟨(by exact Nat.le_of_ble_eq_true rfl), (by exact Nat.le_of_ble_eq_true rfl)⟩ (by exact Nat.le_of_ble_eq_true rfl) ⟨(by exact Nat.le_of_ble_eq_true rfl), (by exact Nat.le_of_ble_eq_true rfl)⟩ dX4_move_48 (by rintro v w ⟨rfl, rfl⟩; rfl) (fun _ _ h => h.elim) (fun _ _ h => h.elim) ?_
      rintro r w ⟨rfl, rfl⟩
      refine zs_eq (wl' := zb_W x) (st' := [.int (zl_key T.1.2.1 (zf_ix (nI (zl_stay T.1.1 T.1.2.1 (-1)) + i) T.1.2.1.length))]) (zb_upA x x.1.2.1) rfl rfl rfl ?_
      exact zs_zret hA B rfl rfl (by decide) (by decide) ⟨rfl, rfl, h, h2⟩ dX4_move_51
    · refine zs_throw hA B (cls := zE_i) (text := "there is no such move") (fr := 7) rfl (by decide) (by decide +kernel) (by decide +kernel) (by decide +kernel) (by decide +kernel) (by decide +kernel) (by decide +kernel) (by decide +kernel) (by decide +kernel) dX4_move_28 dX4_move_31 dX4_move_32 dX4_move_34 dX4_move_37 (by exact Nat.le_of_ble_eq_true rfl) (by exact Nat.le_of_ble_eq_true rfl) (by exact Nat.le_of_ble_eq_true rfl) ?_
      exact ⟨rfl, rfl, Or.inr h2⟩
set_option maxHeartbeats 4000000 in
theorem zb_crossings {l : Launch} (hl : l.stackTraces = false) (D : va_G) (dA : Nat → ClassId) (x : zb_D) (T : zb_T) (hR : zb_R T x) : zw_Sp l D dA yX4_crossings wsX4_crossings 7 0 0 [.ref 0] (zb_W x)
    (fun r w => r = some (.int (nI (zl_cr T.1.1 T.1.2.1 T.1.2.1.length))) ∧ w = zb_W x) (fun _ _ => False) := by
  refine zw_start hl (by decide) rfl rfl (Nat.le_of_ble_eq_true rfl) ?_
  intro pr e s m args below meth c ad A hA B
  refine zs_aload_n B dX4_crossings_0 (i := 0) rfl rfl ?_
  refine zs_get B fX4_crossings_10 rfl rfl dX4_crossings_1 ?_
  refine zs_callV (n := 0) [1, 2, 3, 4, 5, 6, 7] B (zp_crossedPairs hl D dA x.1 T.1 hR.1) gX4_crossings_X0_crossedPairs rfl ⟨rfl, by decide, by decide, by decide +kernel⟩ rfl (by rfl) rfl rfl rfl (by rfl) ⟨(by exact Nat.le_of_ble_eq_true rfl), (by exact Nat.le_of_ble_eq_true rfl)⟩ (by exact Nat.le_of_ble_eq_true rfl) ⟨(by exact Nat.le_of_ble_eq_true rfl), (by exact Nat.le_of_ble_eq_true rfl)⟩ dX4_crossings_4 (by rintro v w ⟨rfl, rfl⟩; rfl) (fun _ _ h => h.elim) (fun _ _ h => h.elim) ?_
  rintro r w ⟨rfl, rfl⟩
  refine zs_eq (wl' := zb_W x) (st' := [.int (nI (zl_cr T.1.1 T.1.2.1 T.1.2.1.length))]) (zb_upP x x.1) rfl rfl rfl ?_
  exact zs_zret hA B rfl rfl (by decide) (by decide) ⟨rfl, rfl⟩ dX4_crossings_7
