/-! the class Row -/
set_option maxHeartbeats 4000000 in
theorem zr_count {l : Launch} (hl : l.stackTraces = false) (D : va_G) (dA : Nat → ClassId) (d : zr_D) : zw_Sp l D dA yX2_count wsX2_count 0 0 0 [.ref 0] (zr_W 0 d) (fun v w => v = some (.int (nI d.1)) ∧ w = zr_W 0 d) (fun _ _ => False) := by
  refine zw_start hl (by decide) rfl rfl (Nat.le_of_ble_eq_true rfl) ?_
  intro pr e s m args below meth c ad A hA B
  refine zs_aload_n B dX2_count_0 (i := 0) rfl rfl ?_
  refine zs_get B fX2_count_18 rfl rfl dX2_count_1 ?_
  exact zs_zret hA B rfl rfl (by decide) (by decide) ⟨rfl, rfl⟩ dX2_count_4
set_option maxHeartbeats 4000000 in
theorem zr_holdsPlace {l : Launch} (hl : l.stackTraces = false) (D : va_G) (dA : Nat → ClassId) (d : zr_D) (hd : d.1 ≤ 12) (q : Int32) : zw_Sp l D dA yX2_holdsPlace wsX2_holdsPlace 0 0 0 [.ref 0, .int q] (zr_W 0 d) (fun v w => v = some (.int (zf_b (zf_ix q d.1).isSome)) ∧ w = zr_W 0 d) (fun _ _ => False) := by
  refine zw_start hl (by decide) rfl rfl (Nat.le_of_ble_eq_true rfl) ?_
  intro pr e s m args below meth c ad A hA B
  refine zs_iload_n B dX2_holdsPlace_0 (i := 1) rfl rfl ?_
  refine zs_if_lt (tgt := 25) B dX2_holdsPlace_1 (by decide) (fun h1 => ?_) (fun h1 => ?_)
  · refine zs_iconst (v := 0) B dX2_holdsPlace_25 (by decide) ?_
    exact zs_zret hA B rfl rfl (by decide) (by decide) ⟨by rw [zf_ix_neg _ h1]; rfl, rfl⟩ dX2_holdsPlace_26
  · refine zs_iload_n B dX2_holdsPlace_4 (i := 1) rfl rfl ?_
    refine zs_aload_n B dX2_holdsPlace_5 (i := 0) rfl rfl ?_
    refine zs_get B fX2_holdsPlace_18 rfl rfl dX2_holdsPlace_6 ?_
    refine zs_icmp_ge (tgt := 25) B dX2_holdsPlace_9 (by decide) (fun h2 => ?_) (fun h2 => ?_)
    · refine zs_iconst (v := 0) B dX2_holdsPlace_25 (by decide) ?_
      exact zs_zret hA B rfl rfl (by decide) (by decide) ⟨by rw [zf_ix_big (by omega) h2]; rfl, rfl⟩ dX2_holdsPlace_26
    · rcases zf_ix_cases q (n := d.1) (by omega) with ⟨h, -⟩ | ⟨-, h, -⟩ | ⟨j, hj, rfl, hix⟩
      · exact absurd h h1
      · exact absurd h h2
      · refine zs_iload_n B dX2_holdsPlace_12 (i := 1) rfl rfl ?_
        refine zs_aload_n B dX2_holdsPlace_13 (i := 0) rfl rfl ?_
        refine zs_get B fX2_holdsPlace_9 rfl rfl dX2_holdsPlace_14 ?_
        refine zs_alen (v := 12) B rfl (by decide) (by decide) dX2_holdsPlace_17 ?_
        refine zs_icmp_ge (tgt := 25) B dX2_holdsPlace_18 (by decide) (fun h3 => ?_) (fun h3 => ?_)
        · exact absurd ((nI_leI (by decide) (by omega)).mp (show nI 12 ≤ nI j from h3)) (by omega)
        · refine zs_iconst (v := 1) B dX2_holdsPlace_21 (by decide) ?_
          refine zs_goto (tgt := 26) B dX2_holdsPlace_22 (by decide) ?_
          exact zs_zret hA B rfl rfl (by decide) (by decide) ⟨by rw [hix]; rfl, rfl⟩ dX2_holdsPlace_26
theorem zf_b_ne {b : Bool} (h : ¬ zf_b b = 0) : b = true := by cases b <;> simp_all [zf_b]
theorem zf_b_eq {b : Bool} (h : zf_b b = 0) : b = false := by cases b <;> simp_all [zf_b]
set_option maxHeartbeats 4000000 in
theorem zr_keyIn {l : Launch} (hl : l.stackTraces = false) (D : va_G) (dA : Nat → ClassId) (d : zr_D) (L : zr_L) (hR : zr_R L d) (q : Int32) : zw_Sp l D dA yX2_keyIn wsX2_keyIn 1 0 0 [.ref 0, .int q] (zr_W 0 d) (fun v w => v = some (.int (zl_key L (zf_ix q L.length))) ∧ w = zr_W 0 d) (fun _ _ => False) := by
  refine zw_start hl (by decide) rfl rfl (Nat.le_of_ble_eq_true rfl) ?_
  intro pr e s m args below meth c ad A hA B
  have h12 : d.1 ≤ 12 := by rw [hR.1]; exact hR.2.1
  refine zs_aload_n B dX2_keyIn_0 (i := 0) rfl rfl ?_
  refine zs_iload_n B dX2_keyIn_1 (i := 1) rfl rfl ?_
  refine zs_callV (n := 1) [0, 1, 2] B (zr_holdsPlace hl D dA d h12 q) gX2_keyIn_X2_holdsPlace rfl ⟨rfl, by decide, by decide, by decide +kernel⟩ rfl (by rfl) rfl rfl rfl (by rfl) ⟨(by exact Nat.le_of_ble_eq_true rfl), (by exact Nat.le_of_ble_eq_true rfl)⟩ (by exact Nat.le_of_ble_eq_true rfl) ⟨(by exact Nat.le_of_ble_eq_true rfl), (by exact Nat.le_of_ble_eq_true rfl)⟩ dX2_keyIn_2 (by rintro v w ⟨rfl, rfl⟩; rfl) (fun _ _ h => h.elim) (fun _ _ h => h.elim) ?_
  rintro v w ⟨rfl, rfl⟩
  refine zs_eq (wl' := zr_W 0 d) (st' := [.int (zf_b (zf_ix q d.1).isSome)]) rfl rfl rfl rfl ?_
  rw [hR.1]
  refine zs_if_eq (tgt := 17) B dX2_keyIn_5 (by decide) (fun h1 => ?_) (fun h1 => ?_)
  · refine zs_iconst (v := (-1)) B dX2_keyIn_17 (by decide) ?_
    have h2 : zf_ix q L.length = none := Option.not_isSome_iff_eq_none.mp (by rw [zf_b_eq h1]; decide)
    exact zs_zret hA B rfl rfl (by decide) (by decide) ⟨by rw [h2]; rfl, rfl⟩ dX2_keyIn_18
  · obtain ⟨j, hj⟩ := Option.isSome_iff_exists.mp (zf_b_ne h1)
    rcases zf_ix_cases q (n := L.length) (by have := hR.2.1; omega) with ⟨-, h⟩ | ⟨-, -, h⟩ | ⟨j', hj', hqj, hix⟩
    · rw [h] at hj; cases hj
    · rw [h] at hj; cases hj
    · obtain ⟨r, hr, hr1, hr2⟩ := hR.at (i := j') (by rw [hR.1]; exact hj')
      refine zs_aload_n B dX2_keyIn_8 (i := 0) rfl rfl ?_
      refine zs_get B fX2_keyIn_9 rfl rfl dX2_keyIn_9 ?_
      refine zs_iload_n B dX2_keyIn_12 (i := 1) rfl rfl ?_
      refine zs_ial B j' rfl (by have := hR.2.1; omega) (by decide) hqj dX2_keyIn_13 ?_
      refine zs_goto (tgt := 18) B dX2_keyIn_14 (by decide) ?_
      refine zs_zret hA B rfl rfl (by decide) (by decide) ⟨?_, rfl⟩ dX2_keyIn_18
      rw [hix]
      unfold zl_key
      rw [Option.bind_some, hr]
      exact congrArg (fun x => some (Value.int x)) hr1
set_option maxHeartbeats 4000000 in
theorem zr_valueIn {l : Launch} (hl : l.stackTraces = false) (D : va_G) (dA : Nat → ClassId) (d : zr_D) (L : zr_L) (hR : zr_R L d) (q : Int32) : zw_Sp l D dA yX2_valueIn wsX2_valueIn 1 0 0 [.ref 0, .int q] (zr_W 0 d) (fun v w => v = some (.int (zl_val L (zf_ix q L.length))) ∧ w = zr_W 0 d) (fun _ _ => False) := by
  refine zw_start hl (by decide) rfl rfl (Nat.le_of_ble_eq_true rfl) ?_
  intro pr e s m args below meth c ad A hA B
  have h12 : d.1 ≤ 12 := by rw [hR.1]; exact hR.2.1
  refine zs_aload_n B dX2_valueIn_0 (i := 0) rfl rfl ?_
  refine zs_iload_n B dX2_valueIn_1 (i := 1) rfl rfl ?_
  refine zs_callV (n := 1) [0, 1, 2] B (zr_holdsPlace hl D dA d h12 q) gX2_valueIn_X2_holdsPlace rfl ⟨rfl, by decide, by decide, by decide +kernel⟩ rfl (by rfl) rfl rfl rfl (by rfl) ⟨(by exact Nat.le_of_ble_eq_true rfl), (by exact Nat.le_of_ble_eq_true rfl)⟩ (by exact Nat.le_of_ble_eq_true rfl) ⟨(by exact Nat.le_of_ble_eq_true rfl), (by exact Nat.le_of_ble_eq_true rfl)⟩ dX2_valueIn_2 (by rintro v w ⟨rfl, rfl⟩; rfl) (fun _ _ h => h.elim) (fun _ _ h => h.elim) ?_
  rintro v w ⟨rfl, rfl⟩
  refine zs_eq (wl' := zr_W 0 d) (st' := [.int (zf_b (zf_ix q d.1).isSome)]) rfl rfl rfl rfl ?_
  rw [hR.1]
  refine zs_if_eq (tgt := 17) B dX2_valueIn_5 (by decide) (fun h1 => ?_) (fun h1 => ?_)
  · refine zs_iconst (v := 0) B dX2_valueIn_17 (by decide) ?_
    have h2 : zf_ix q L.length = none := Option.not_isSome_iff_eq_none.mp (by rw [zf_b_eq h1]; decide)
    exact zs_zret hA B rfl rfl (by decide) (by decide) ⟨by rw [h2]; rfl, rfl⟩ dX2_valueIn_18
  · obtain ⟨j, hj⟩ := Option.isSome_iff_exists.mp (zf_b_ne h1)
    rcases zf_ix_cases q (n := L.length) (by have := hR.2.1; omega) with ⟨-, h⟩ | ⟨-, -, h⟩ | ⟨j', hj', hqj, hix⟩
    · rw [h] at hj; cases hj
    · rw [h] at hj; cases hj
    · obtain ⟨r, hr, hr1, hr2⟩ := hR.at (i := j') (by rw [hR.1]; exact hj')
      refine zs_aload_n B dX2_valueIn_8 (i := 0) rfl rfl ?_
      refine zs_get B fX2_valueIn_15 rfl rfl dX2_valueIn_9 ?_
      refine zs_iload_n B dX2_valueIn_12 (i := 1) rfl rfl ?_
      refine zs_ial B j' rfl (by have := hR.2.1; omega) (by decide) hqj dX2_valueIn_13 ?_
      refine zs_goto (tgt := 18) B dX2_valueIn_14 (by decide) ?_
      refine zs_zret hA B rfl rfl (by decide) (by decide) ⟨?_, rfl⟩ dX2_valueIn_18
      rw [hix]
      unfold zl_val
      rw [Option.bind_some, hr]
      exact congrArg (fun x => some (Value.int x)) hr2
set_option maxHeartbeats 4000000 in
theorem zr_find {l : Launch} (hl : l.stackTraces = false) (D : va_G) (dA : Nat → ClassId) (d : zr_D) (L : zr_L) (hR : zr_R L d) (key : Int32) : zw_Sp l D dA yX2_find wsX2_find 2 0 0 [.ref 0, .int key] (zr_W 0 d) (fun v w => v = some (.int (zl_fi L key)) ∧ w = zr_W 0 d) (fun _ _ => False) := by
  refine zw_start hl (by decide) rfl rfl (Nat.le_of_ble_eq_true rfl) ?_
  intro pr e s m args below meth c ad A hA B
  have h12 := hR.2.1
  refine zs_iconst (v := 0) B dX2_find_0 (by decide) ?_
  refine zs_istore_n B dX2_find_1 (i := 2) rfl (by decide) rfl ?_
  refine zs_eq (lv' := [some (.ref 0), some (.int key), some (.int (nI (zz 0)))]) rfl rfl rfl rfl ?_
  obtain ⟨k, hk⟩ : ∃ k, k + zz 0 = L.length := ⟨L.length, rfl⟩
  have hinv : ∀ (i : Nat) (r : Int32 × Int32), i < zz 0 → L[i]? = some r → ¬ r.1 = key := fun i r h => absurd h (Nat.not_lt_zero i)
  generalize zz 0 = j at hk hinv ⊢
  induction k generalizing j with
  | zero =>
    refine zs_iload_n B dX2_find_2 (i := 2) rfl rfl ?_
    refine zs_aload_n B dX2_find_3 (i := 0) rfl rfl ?_
    refine zs_get B fX2_find_18 rfl rfl dX2_find_4 ?_
    refine zs_icmp_ge (tgt := 27) B dX2_find_7 (by decide) (fun h1 => ?_) (fun h1 => ?_)
    · refine zs_iconst (v := (-1)) B dX2_find_27 (by decide) ?_
      refine zs_zret hA B rfl rfl (by decide) (by decide) ⟨?_, rfl⟩ dX2_find_28
      have h2 : zl_find L key = L.length := zl_find_none (fun i r h => hinv i r (by have := (List.getElem?_eq_some_iff.mp h).1; omega) h)
      unfold zl_fi zf_i
      rw [h2, if_neg (Nat.lt_irrefl _)]
    · exact absurd (nI_le (by rw [hR.1]; omega) (by omega)) h1
  | succ k ih =>
    refine zs_iload_n B dX2_find_2 (i := 2) rfl rfl ?_
    refine zs_aload_n B dX2_find_3 (i := 0) rfl rfl ?_
    refine zs_get B fX2_find_18 rfl rfl dX2_find_4 ?_
    refine zs_icmp_ge (tgt := 27) B dX2_find_7 (by decide) (fun h1 => ?_) (fun h1 => ?_)
    · exact absurd ((nI_leI (by rw [hR.1]; omega) (by omega)).mp h1) (by rw [hR.1]; omega)
    · obtain ⟨r, hr, hr1, hr2⟩ := hR.at (i := j) (by rw [hR.1]; omega)
      refine zs_aload_n B dX2_find_10 (i := 0) rfl rfl ?_
      refine zs_iload_n B dX2_find_11 (i := 2) rfl rfl ?_
      refine zs_callV (n := 1) [0, 1, 2] B (zr_keyIn hl D dA d L hR (nI j)) gX2_find_X2_keyIn rfl ⟨rfl, by decide, by decide, by decide +kernel⟩ rfl (by rfl) rfl rfl rfl (by rfl) ⟨(by exact Nat.le_of_ble_eq_true rfl), (by exact Nat.le_of_ble_eq_true rfl)⟩ (by exact Nat.le_of_ble_eq_true rfl) ⟨(by exact Nat.le_of_ble_eq_true rfl), (by exact Nat.le_of_ble_eq_true rfl)⟩ dX2_find_12 (by rintro v w ⟨rfl, rfl⟩; rfl) (fun _ _ h => h.elim) (fun _ _ h => h.elim) ?_
      rintro v w ⟨rfl, rfl⟩
      have e1 : zl_key L (zf_ix (nI j) L.length) = r.1 := by
        rw [zf_ix_nI (by omega), if_pos (by omega)]
        unfold zl_key
        rw [Option.bind_some, hr]
      rw [e1]
      refine zs_eq (wl' := zr_W 0 d) (st' := [.int r.1]) rfl rfl rfl rfl ?_
      refine zs_iload_n B dX2_find_15 (i := 1) rfl rfl ?_
      refine zs_icmp_ne (tgt := 21) B dX2_find_16 (by decide) (fun h2 => ?_) (fun h2 => ?_)
      · refine zs_iinc B dX2_find_21 (i := 2) rfl (nI_1 j) (by decide) rfl ?_
        refine zs_goto (tgt := 2) B dX2_find_24 (by decide) ?_
        refine ih (j + 1) (by omega) ?_
        intro i r' hi hr'
        by_cases e : i = j
        · subst e
          rw [hr] at hr'
          cases hr'
          exact h2
        · exact hinv i r' (by omega) hr'
      · refine zs_iload_n B dX2_find_19 (i := 2) rfl rfl ?_
        refine zs_zret hA B rfl rfl (by decide) (by decide) ⟨?_, rfl⟩ dX2_find_20
        unfold zl_fi zf_i
        rw [zl_find_at hr h2 hinv, if_pos (by omega)]
set_option maxHeartbeats 4000000 in
theorem zr_give {l : Launch} (hl : l.stackTraces = false) (D : va_G) (dA : Nat → ClassId) (d : zr_D) (L : zr_L) (hR : zr_R L d) (q x : Int32) : zw_Sp l D dA yX2_give wsX2_give 1 0 0 [.ref 0, .int q, .int x] (zr_W 0 d) (fun v w => v = none ∧ ∃ d', zr_R (zl_give L (zf_ix q L.length) x) d' ∧ w = zr_W 0 d') (fun _ _ => False) := by
  refine zw_start hl (by decide) rfl rfl (Nat.le_of_ble_eq_true rfl) ?_
  intro pr e s m args below meth c ad A hA B
  have h12 : d.1 ≤ 12 := by rw [hR.1]; exact hR.2.1
  refine zs_aload_n B dX2_give_0 (i := 0) rfl rfl ?_
  refine zs_iload_n B dX2_give_1 (i := 1) rfl rfl ?_
  refine zs_callV (n := 1) [0, 1, 2] B (zr_holdsPlace hl D dA d h12 q) gX2_give_X2_holdsPlace rfl ⟨rfl, by decide, by decide, by decide +kernel⟩ rfl (by rfl) rfl rfl rfl (by rfl) ⟨(by exact Nat.le_of_ble_eq_true rfl), (by exact Nat.le_of_ble_eq_true rfl)⟩ (by exact Nat.le_of_ble_eq_true rfl) ⟨(by exact Nat.le_of_ble_eq_true rfl), (by exact Nat.le_of_ble_eq_true rfl)⟩ dX2_give_2 (by rintro v w ⟨rfl, rfl⟩; rfl) (fun _ _ h => h.elim) (fun _ _ h => h.elim) ?_
  rintro v w ⟨rfl, rfl⟩
  refine zs_eq (wl' := zr_W 0 d) (st' := [.int (zf_b (zf_ix q d.1).isSome)]) rfl rfl rfl rfl ?_
  rw [hR.1]
  refine zs_if_eq (tgt := 15) B dX2_give_5 (by decide) (fun h1 => ?_) (fun h1 => ?_)
  · have h2 : zf_ix q L.length = none := Option.not_isSome_iff_eq_none.mp (by rw [zf_b_eq h1]; decide)
    exact zs_vret hA B rfl (by decide) (by decide) ⟨rfl, d, by rw [h2]; exact hR, rfl⟩ dX2_give_15
  · obtain ⟨j, hj⟩ := Option.isSome_iff_exists.mp (zf_b_ne h1)
    rcases zf_ix_cases q (n := L.length) (by have := hR.2.1; omega) with ⟨-, h⟩ | ⟨-, -, h⟩ | ⟨j', hj', hqj, hix⟩
    · rw [h] at hj; cases hj
    · rw [h] at hj; cases hj
    · refine zs_aload_n B dX2_give_8 (i := 0) rfl rfl ?_
      refine zs_get B fX2_give_15 rfl rfl dX2_give_9 ?_
      refine zs_iload_n B dX2_give_12 (i := 1) rfl rfl ?_
      refine zs_iload_n B dX2_give_13 (i := 2) rfl rfl ?_
      refine zs_ias B j' rfl (by have := hR.2.1; omega) (by decide) hqj dX2_give_14 ?_
      exact zs_vret hA B rfl (by decide) (by decide) ⟨rfl, (d.1, d.2.1, upd d.2.2 j' x), by rw [hix]; exact hR.give (by rw [hR.1]; exact hj') x, rfl⟩ dX2_give_15
set_option maxHeartbeats 4000000 in
theorem zr_append {l : Launch} (hl : l.stackTraces = false) (D : va_G) (dA : Nat → ClassId) (d : zr_D) (L : zr_L) (hR : zr_R L d) (h12 : L.length < 12) (k x : Int32) : zw_Sp l D dA yX2_append wsX2_append 0 0 0 [.ref 0, .int k, .int x] (zr_W 0 d) (fun v w => v = none ∧ ∃ d', zr_R (L ++ [(k, x)]) d' ∧ w = zr_W 0 d') (fun _ _ => False) := by
  refine zw_start hl (by decide) rfl rfl (Nat.le_of_ble_eq_true rfl) ?_
  intro pr e s m args below meth c ad A hA B
  have hd : d.1 < 12 := by rw [hR.1]; exact h12
  refine zs_aload_n B dX2_append_0 (i := 0) rfl rfl ?_
  refine zs_get B fX2_append_18 rfl rfl dX2_append_1 ?_
  refine zs_aload_n B dX2_append_4 (i := 0) rfl rfl ?_
  refine zs_get B fX2_append_9 rfl rfl dX2_append_5 ?_
  refine zs_alen (v := 12) B rfl (by decide) (by decide) dX2_append_8 ?_
  refine zs_icmp_ge (tgt := 42) B dX2_append_9 (by decide) (fun h3 => ?_) (fun h3 => ?_)
  · exact absurd ((nI_leI (by decide) (by omega)).mp (show nI 12 ≤ nI d.1 from h3)) (by omega)
  · refine zs_aload_n B dX2_append_12 (i := 0) rfl rfl ?_
    refine zs_get B fX2_append_9 rfl rfl dX2_append_13 ?_
    refine zs_aload_n B dX2_append_16 (i := 0) rfl rfl ?_
    refine zs_get B fX2_append_18 rfl rfl dX2_append_17 ?_
    refine zs_iload_n B dX2_append_20 (i := 1) rfl rfl ?_
    refine zs_ias B d.1 rfl hd (by decide) rfl dX2_append_21 ?_
    refine zs_aload_n B dX2_append_22 (i := 0) rfl rfl ?_
    refine zs_get B fX2_append_15 rfl rfl dX2_append_23 ?_
    refine zs_aload_n B dX2_append_26 (i := 0) rfl rfl ?_
    refine zs_get B fX2_append_18 rfl rfl dX2_append_27 ?_
    refine zs_iload_n B dX2_append_30 (i := 2) rfl rfl ?_
    refine zs_ias B d.1 rfl hd (by decide) rfl dX2_append_31 ?_
    refine zs_aload_n B dX2_append_32 (i := 0) rfl rfl ?_
    refine zs_dup B dX2_append_33 rfl ?_
    refine zs_get B fX2_append_18 rfl rfl dX2_append_34 ?_
    refine zs_iconst (v := 1) B dX2_append_37 (by decide) ?_
    refine zs_iadd B dX2_append_38 ?_
    refine zs_topi (fun y hy => ?_)
    rw [nI_1] at hy
    subst hy
    refine zs_put B (wX2_append_18 rfl rfl) rfl (Nat.le_of_ble_eq_true rfl) dX2_append_39 ?_
    exact zs_vret hA B rfl (by decide) (by decide) ⟨rfl, (d.1 + 1, upd d.2.1 d.1 k, upd d.2.2 d.1 x), hR.append hd k x, rfl⟩ dX2_append_42
set_option maxHeartbeats 4000000 in
theorem zr_close {l : Launch} (hl : l.stackTraces = false) (D : va_G) (dA : Nat → ClassId) (d : zr_D) (L : zr_L) (hR : zr_R L d) (q : Int32) : zw_Sp l D dA yX2_close wsX2_close 1 0 0 [.ref 0, .int q] (zr_W 0 d) (fun v w => v = none ∧ ∃ d', zr_R (zl_close L (zf_ix q L.length)) d' ∧ w = zr_W 0 d') (fun _ _ => False) := by
  refine zw_start hl (by decide) rfl rfl (Nat.le_of_ble_eq_true rfl) ?_
  intro pr e s m args below meth c ad A hA B
  have h12 : d.1 ≤ 12 := by rw [hR.1]; exact hR.2.1
  refine zs_aload_n B dX2_close_0 (i := 0) rfl rfl ?_
  refine zs_iload_n B dX2_close_1 (i := 1) rfl rfl ?_
  refine zs_callV (n := 1) [0, 1, 2] B (zr_holdsPlace hl D dA d h12 q) gX2_close_X2_holdsPlace rfl ⟨rfl, by decide, by decide, by decide +kernel⟩ rfl (by rfl) rfl rfl rfl (by rfl) ⟨(by exact Nat.le_of_ble_eq_true rfl), (by exact Nat.le_of_ble_eq_true rfl)⟩ (by exact Nat.le_of_ble_eq_true rfl) ⟨(by exact Nat.le_of_ble_eq_true rfl), (by exact Nat.le_of_ble_eq_true rfl)⟩ dX2_close_2 (by rintro v w ⟨rfl, rfl⟩; rfl) (fun _ _ h => h.elim) (fun _ _ h => h.elim) ?_
  rintro v w ⟨rfl, rfl⟩
  refine zs_eq (wl' := zr_W 0 d) (st' := [.int (zf_b (zf_ix q d.1).isSome)]) rfl rfl rfl rfl ?_
  rw [hR.1]
  refine zs_if_ne (tgt := 9) B dX2_close_5 (by decide) (fun h1 => ?_) (fun h1 => ?_)
  · obtain ⟨j, hj⟩ := Option.isSome_iff_exists.mp (zf_b_ne h1)
    rcases zf_ix_cases q (n := L.length) (by have := hR.2.1; omega) with ⟨-, h⟩ | ⟨-, -, h⟩ | ⟨p, hp, hqp, hix⟩
    · rw [h] at hj; cases hj
    · rw [h] at hj; cases hj
    · subst hqp
      rw [← hR.1] at hp
      rw [hix]
      refine zs_iload_n B dX2_close_9 (i := 1) rfl rfl ?_
      refine zs_iconst (v := 1) B dX2_close_10 (by decide) ?_
      refine zs_iadd B dX2_close_11 ?_
      refine zs_topi (fun y hy => ?_)
      rw [nI_1] at hy
      subst hy
      refine zs_istore_n B dX2_close_12 (i := 2) rfl (by decide) rfl ?_
      refine zs_eq (wl' := zr_W 0 (d.1, zf_sh d.2.1 p (p + zz 0), zf_sh d.2.2 p (p + zz 0))) (lv' := [some (.ref 0), some (.int (nI p)), some (.int (nI (p + zz 0 + 1)))]) (by show zr_W 0 d = zr_W 0 (d.1, zf_sh d.2.1 p p, zf_sh d.2.2 p p); rw [zf_sh_0, zf_sh_0]) rfl rfl rfl ?_
      obtain ⟨k, hk⟩ : ∃ k, k + (p + zz 0) + 1 = d.1 := ⟨d.1 - 1 - p, by show d.1 - 1 - p + (p + 0) + 1 = d.1; omega⟩
      generalize zz 0 = t at hk ⊢
      induction k generalizing t with
      | zero =>
        refine zs_iload_n B dX2_close_13 (i := 2) rfl rfl ?_
        refine zs_aload_n B dX2_close_14 (i := 0) rfl rfl ?_
        refine zs_get B fX2_close_18 rfl rfl dX2_close_15 ?_
        refine zs_icmp_ge (tgt := 64) B dX2_close_18 (by decide) (fun h2 => ?_) (fun h2 => ?_)
        · refine zs_aload_n B dX2_close_64 (i := 0) rfl rfl ?_
          refine zs_dup B dX2_close_65 rfl ?_
          refine zs_get B fX2_close_18 rfl rfl dX2_close_66 ?_
          refine zs_iconst (v := 1) B dX2_close_69 (by decide) ?_
          refine zs_isub B dX2_close_70 ?_
          refine zs_topi (fun y hy => ?_)
          have hy : y = nI (d.1 - 1) := by rw [hy, show d.1 = d.1 - 1 + 1 by omega]; exact nI_pred _
          subst hy
          refine zs_put B (wX2_close_18 rfl rfl) rfl (Nat.le_of_ble_eq_true rfl) dX2_close_71 ?_
          refine zs_vret hA B rfl (by decide) (by decide) ⟨rfl, (d.1 - 1, zf_sh d.2.1 p (d.1 - 1), zf_sh d.2.2 p (d.1 - 1)), hR.close hp, ?_⟩ dX2_close_74
          rw [show p + t = d.1 - 1 by omega]
          rfl
        · exact absurd (nI_le (show d.1 ≤ p + t + 1 by omega) (by omega)) h2
      | succ k ih =>
        refine zs_iload_n B dX2_close_13 (i := 2) rfl rfl ?_
        refine zs_aload_n B dX2_close_14 (i := 0) rfl rfl ?_
        refine zs_get B fX2_close_18 rfl rfl dX2_close_15 ?_
        refine zs_icmp_ge (tgt := 64) B dX2_close_18 (by decide) (fun h2 => ?_) (fun h2 => ?_)
        · exact absurd ((nI_leI (by omega) (by omega)).mp (show nI d.1 ≤ nI (p + t + 1) from h2)) (by omega)
        · refine zs_iload_n B dX2_close_21 (i := 2) rfl rfl ?_
          refine zs_aload_n B dX2_close_22 (i := 0) rfl rfl ?_
          refine zs_get B fX2_close_9 rfl rfl dX2_close_23 ?_
          refine zs_alen (v := 12) B rfl (by decide) (by decide) dX2_close_26 ?_
          refine zs_icmp_ge (tgt := 64) B dX2_close_27 (by decide) (fun h3 => ?_) (fun h3 => ?_)
          · exact absurd ((nI_leI (by decide) (by omega)).mp (show nI 12 ≤ nI (p + t + 1) from h3)) (by omega)
          · refine zs_aload_n B dX2_close_30 (i := 0) rfl rfl ?_
            refine zs_get B fX2_close_9 rfl rfl dX2_close_31 ?_
            refine zs_iload_n B dX2_close_34 (i := 2) rfl rfl ?_
            refine zs_iconst (v := 1) B dX2_close_35 (by decide) ?_
            refine zs_isub B dX2_close_36 ?_
            refine zs_topi (fun y hy => ?_)
            rw [nI_pred] at hy
            subst hy
            refine zs_aload_n B dX2_close_37 (i := 0) rfl rfl ?_
            refine zs_get B fX2_close_9 rfl rfl dX2_close_38 ?_
            refine zs_iload_n B dX2_close_41 (i := 2) rfl rfl ?_
            refine zs_ial B (p + t + 1) rfl (by omega) (by decide) rfl dX2_close_42 ?_
            refine zs_ias B (p + t) rfl (by omega) (by decide) rfl dX2_close_43 ?_
            refine zs_aload_n B dX2_close_44 (i := 0) rfl rfl ?_
            refine zs_get B fX2_close_15 rfl rfl dX2_close_45 ?_
            refine zs_iload_n B dX2_close_48 (i := 2) rfl rfl ?_
            refine zs_iconst (v := 1) B dX2_close_49 (by decide) ?_
            refine zs_isub B dX2_close_50 ?_
            refine zs_topi (fun y hy => ?_)
            rw [nI_pred] at hy
            subst hy
            refine zs_aload_n B dX2_close_51 (i := 0) rfl rfl ?_
            refine zs_get B fX2_close_15 rfl rfl dX2_close_52 ?_
            refine zs_iload_n B dX2_close_55 (i := 2) rfl rfl ?_
            refine zs_ial B (p + t + 1) rfl (by omega) (by decide) rfl dX2_close_56 ?_
            refine zs_ias B (p + t) rfl (by omega) (by decide) rfl dX2_close_57 ?_
            refine zs_iinc B dX2_close_58 (i := 2) rfl (nI_1 (p + t + 1)) (by decide) rfl ?_
            refine zs_goto (tgt := 13) B dX2_close_61 (by decide) ?_
            refine zs_eq (wl' := zr_W 0 (d.1, zf_sh d.2.1 p (p + (t + 1)), zf_sh d.2.2 p (p + (t + 1)))) (lv' := [some (.ref 0), some (.int (nI p)), some (.int (nI (p + (t + 1) + 1)))]) ?_ rfl rfl rfl (ih (t + 1) (by omega))
            show [_, _, _] = [_, _, _]
            have e1 := zf_sh_s d.2.1 (p := p) (q := p + t) (by omega)
            have e2 := zf_sh_s d.2.2 (p := p) (q := p + t) (by omega)
            rw [show p + (t + 1) = p + t + 1 from rfl, ← e1, ← e2]
  · have h2 : zf_ix q L.length = none := Option.not_isSome_iff_eq_none.mp (by rw [zf_b_eq h1]; decide)
    exact zs_vret hA B rfl (by decide) (by decide) ⟨rfl, d, by rw [h2]; exact hR, rfl⟩ dX2_close_8
