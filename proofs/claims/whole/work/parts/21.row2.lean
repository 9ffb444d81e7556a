/-! the class Row: its methods that call several others -/
theorem zl_last_some {L : zr_L} {j : Nat} {q : Int32 × Int32} (h : L[j]? = some q) : zl_last L (some j) = L.eraseIdx j ++ [q] := by
  unfold zl_last
  rw [Option.bind_some, h]
  rfl
theorem zl_last_none {L : zr_L} : zl_last L none = L := rfl
set_option maxHeartbeats 4000000 in
theorem zr_putLast {l : Launch} (hl : l.stackTraces = false) (D : va_G) (dA : Nat → ClassId) (d : zr_D) (L : zr_L) (hR : zr_R L d) (q : Int32) : zw_Sp l D dA yX2_putLast wsX2_putLast 2 0 0 [.ref 0, .int q] (zr_W 0 d) (fun v w => v = none ∧ ∃ d', zr_R (zl_last L (zf_ix q L.length)) d' ∧ w = zr_W 0 d') (fun _ _ => False) := by
  refine zw_start hl (by decide) rfl rfl (Nat.le_of_ble_eq_true rfl) ?_
  intro pr e s m args below meth c ad A hA B
  have h12 : d.1 ≤ 12 := by rw [hR.1]; exact hR.2.1
  refine zs_aload_n B dX2_putLast_0 (i := 0) rfl rfl ?_
  refine zs_iload_n B dX2_putLast_1 (i := 1) rfl rfl ?_
  refine zs_callV (n := 1) [0, 1, 2] B (zr_holdsPlace hl D dA d h12 q) gX2_putLast_X2_holdsPlace rfl ⟨rfl, by decide, by decide, by decide +kernel⟩ rfl (by rfl) rfl rfl rfl (by rfl) ⟨(by exact Nat.le_of_ble_eq_true rfl), (by exact Nat.le_of_ble_eq_true rfl)⟩ (by exact Nat.le_of_ble_eq_true rfl) ⟨(by exact Nat.le_of_ble_eq_true rfl), (by exact Nat.le_of_ble_eq_true rfl)⟩ dX2_putLast_2 (by rintro v w ⟨rfl, rfl⟩; rfl) (fun _ _ h => h.elim) (fun _ _ h => h.elim) ?_
  rintro v w ⟨rfl, rfl⟩
  refine zs_eq (wl' := zr_W 0 d) (st' := [.int (zf_b (zf_ix q d.1).isSome)]) rfl rfl rfl rfl ?_
  rw [hR.1]
  refine zs_if_ne (tgt := 9) B dX2_putLast_5 (by decide) (fun h1 => ?_) (fun h1 => ?_)
  · obtain ⟨j, hj⟩ := Option.isSome_iff_exists.mp (zf_b_ne h1)
    rcases zf_ix_cases q (n := L.length) (by have := hR.2.1; omega) with ⟨-, h⟩ | ⟨-, -, h⟩ | ⟨p, hp, hqp, hix⟩
    · rw [h] at hj; cases hj
    · rw [h] at hj; cases hj
    · subst hqp
      rw [← hR.1] at hp
      obtain ⟨r, hr, hr1, hr2⟩ := hR.at hp
      rw [hix, zl_last_some hr]
      refine zs_aload_n B dX2_putLast_9 (i := 0) rfl rfl ?_
      refine zs_get B fX2_putLast_9 rfl rfl dX2_putLast_10 ?_
      refine zs_iload_n B dX2_putLast_13 (i := 1) rfl rfl ?_
      refine zs_ial B p rfl (by omega) (by decide) rfl dX2_putLast_14 ?_
      refine zs_istore_n B dX2_putLast_15 (i := 2) rfl (by decide) rfl ?_
      refine zs_aload_n B dX2_putLast_16 (i := 0) rfl rfl ?_
      refine zs_get B fX2_putLast_15 rfl rfl dX2_putLast_17 ?_
      refine zs_iload_n B dX2_putLast_20 (i := 1) rfl rfl ?_
      refine zs_ial B p rfl (by omega) (by decide) rfl dX2_putLast_21 ?_
      refine zs_istore_n B dX2_putLast_22 (i := 3) rfl (by decide) rfl ?_
      refine zs_aload_n B dX2_putLast_23 (i := 0) rfl rfl ?_
      refine zs_iload_n B dX2_putLast_24 (i := 1) rfl rfl ?_
      refine zs_callV (n := 1) [0, 1, 2] B (zr_close hl D dA d L hR (nI p)) gX2_putLast_X2_close rfl ⟨rfl, by decide, by decide, by decide +kernel⟩ rfl (by rfl) rfl rfl rfl (by rfl) ⟨(by exact Nat.le_of_ble_eq_true rfl), (by exact Nat.le_of_ble_eq_true rfl)⟩ (by exact Nat.le_of_ble_eq_true rfl) ⟨(by exact Nat.le_of_ble_eq_true rfl), (by exact Nat.le_of_ble_eq_true rfl)⟩ dX2_putLast_25 (by rintro v w ⟨rfl, d9, h9, rfl⟩; rfl) (fun _ _ h => h.elim) (fun _ _ h => h.elim) ?_
      rintro v w ⟨rfl, d', hd', rfl⟩
      rw [hix] at hd'
      refine zs_eq (wl' := zr_W 0 d') (st' := []) (lv' := [some (.ref 0), some (.int (nI p)), some (.int r.1), some (.int r.2)]) rfl (by rw [← hr1, ← hr2]; rfl) rfl rfl ?_
      refine zs_aload_n B dX2_putLast_28 (i := 0) rfl rfl ?_
      refine zs_iload_n B dX2_putLast_29 (i := 2) rfl rfl ?_
      refine zs_iload_n B dX2_putLast_30 (i := 3) rfl rfl ?_
      have hl9 : (zl_close L (some p)).length < 12 := by
        show (L.eraseIdx p).length < 12
        rw [List.length_eraseIdx, if_pos (by rw [← hR.1]; exact hp)]
        have := hR.1
        omega
      refine zs_callV (n := 2) [0, 1, 2] B (zr_append hl D dA d' _ hd' hl9 r.1 r.2) gX2_putLast_X2_append rfl ⟨rfl, by decide, by decide, by decide +kernel⟩ rfl (by rfl) rfl rfl rfl (by rfl) ⟨(by exact Nat.le_of_ble_eq_true rfl), (by exact Nat.le_of_ble_eq_true rfl)⟩ (by exact Nat.le_of_ble_eq_true rfl) ⟨(by exact Nat.le_of_ble_eq_true rfl), (by exact Nat.le_of_ble_eq_true rfl)⟩ dX2_putLast_31 (by rintro v w ⟨rfl, d9, h9, rfl⟩; rfl) (fun _ _ h => h.elim) (fun _ _ h => h.elim) ?_
      rintro v w ⟨rfl, d2, hd2, rfl⟩
      refine zs_eq (wl' := zr_W 0 d2) (st' := []) rfl rfl rfl rfl ?_
      exact zs_vret hA B rfl (by decide) (by decide) ⟨rfl, d2, hd2, rfl⟩ dX2_putLast_34
  · have h2 : zf_ix q L.length = none := Option.not_isSome_iff_eq_none.mp (by rw [zf_b_eq h1]; decide)
    exact zs_vret hA B rfl (by decide) (by decide) ⟨rfl, d, by rw [h2]; exact hR, rfl⟩ dX2_putLast_8
theorem zr_R0 (d : zr_D) : zr_R [] (0, d.2.1, d.2.2) := ⟨rfl, Nat.zero_le _, fun i q h => by cases h⟩
theorem zl_key_at {L : zr_L} {j : Nat} {q : Int32 × Int32} (hL : L.length ≤ 12) (h : L[j]? = some q) : zl_key L (zf_ix (nI j) L.length) = q.1 := by
  have hj := (List.getElem?_eq_some_iff.mp h).1
  rw [zf_ix_nI (by omega), if_pos hj]
  unfold zl_key
  rw [Option.bind_some, h]
theorem zl_val_at {L : zr_L} {j : Nat} {q : Int32 × Int32} (hL : L.length ≤ 12) (h : L[j]? = some q) : zl_val L (zf_ix (nI j) L.length) = q.2 := by
  have hj := (List.getElem?_eq_some_iff.mp h).1
  rw [zf_ix_nI (by omega), if_pos hj]
  unfold zl_val
  rw [Option.bind_some, h]
theorem zl_take_s {L : zr_L} {j : Nat} {q : Int32 × Int32} (h : L[j]? = some q) : L.take j ++ [q] = L.take (j + 1) := by
  rw [List.take_add_one, h]; rfl
set_option maxHeartbeats 4000000 in
theorem zr_become {l : Launch} (hl : l.stackTraces = false) (D : va_G) (dA : Nat → ClassId) (d d0 : zr_D) (L : zr_L) (hR : zr_R L d) : zw_Sp l D dA yX2_become wsX2_become 2 0 0 [.ref 0, .ref 3] (zr_W 0 d0 ++ zr_W 3 d) (fun v w => v = none ∧ ∃ d', zr_R L d' ∧ w = zr_W 0 d' ++ zr_W 3 d) (fun _ _ => False) := by
  refine zw_start hl (by decide) rfl rfl (Nat.le_of_ble_eq_true rfl) ?_
  intro pr e s m args below meth c ad A hA B
  have h12 := hR.2.1
  refine zs_aload_n B dX2_become_0 (i := 0) rfl rfl ?_
  refine zs_iconst (v := 0) B dX2_become_1 (by decide) ?_
  refine zs_put B (wX2_become_18 rfl rfl) rfl (Nat.le_of_ble_eq_true rfl) dX2_become_2 ?_
  refine zs_iconst (v := 0) B dX2_become_5 (by decide) ?_
  refine zs_istore_n B dX2_become_6 (i := 2) rfl (by decide) rfl ?_
  obtain ⟨d1, hd1⟩ : ∃ d1 : zr_D, d1 = (0, d0.2.1, d0.2.2) := ⟨_, rfl⟩
  refine zs_eq (wl' := zr_W 0 d1 ++ zr_W 3 d) (lv' := [some (.ref 0), some (.ref 3), some (.int (nI (zz 0)))]) (by rw [hd1]; rfl) rfl rfl rfl ?_
  obtain ⟨k, hk⟩ : ∃ k, k + zz 0 = L.length := ⟨L.length, rfl⟩
  have hinv : zr_R (L.take (zz 0)) d1 := by rw [hd1]; exact zr_R0 d0
  clear hd1
  generalize zz 0 = j at hk hinv ⊢
  induction k generalizing j d1 with
  | zero =>
    refine zs_iload_n B dX2_become_7 (i := 2) rfl rfl ?_
    refine zs_aload_n B dX2_become_8 (i := 1) rfl rfl ?_
    refine zs_get B fX2_become_18 rfl rfl dX2_become_9 ?_
    refine zs_icmp_ge (tgt := 35) B dX2_become_12 (by decide) (fun h1 => ?_) (fun h1 => ?_)
    · exact zs_vret hA B rfl (by decide) (by decide) ⟨rfl, d1, by rw [List.take_of_length_le (by omega)] at hinv; exact hinv, rfl⟩ dX2_become_35
    · exact absurd (nI_le (by rw [hR.1]; omega) (by omega)) h1
  | succ k ih =>
    refine zs_iload_n B dX2_become_7 (i := 2) rfl rfl ?_
    refine zs_aload_n B dX2_become_8 (i := 1) rfl rfl ?_
    refine zs_get B fX2_become_18 rfl rfl dX2_become_9 ?_
    refine zs_icmp_ge (tgt := 35) B dX2_become_12 (by decide) (fun h1 => ?_) (fun h1 => ?_)
    · exact absurd ((nI_leI (by rw [hR.1]; omega) (by omega)).mp h1) (by rw [hR.1]; omega)
    · obtain ⟨r, hr, -, -⟩ := hR.at (i := j) (by rw [hR.1]; omega)
      refine zs_aload_n B dX2_become_15 (i := 0) rfl rfl ?_
      refine zs_aload_n B dX2_become_16 (i := 1) rfl rfl ?_
      refine zs_iload_n B dX2_become_17 (i := 2) rfl rfl ?_
      refine zs_callV (n := 1) [3, 4, 5] B (zr_keyIn hl D dA d L hR (nI j)) gX2_become_X2_keyIn rfl ⟨rfl, by decide, by decide, by decide +kernel⟩ rfl (by rfl) rfl rfl rfl (by rfl) ⟨(by exact Nat.le_of_ble_eq_true rfl), (by exact Nat.le_of_ble_eq_true rfl)⟩ (by exact Nat.le_of_ble_eq_true rfl) ⟨(by exact Nat.le_of_ble_eq_true rfl), (by exact Nat.le_of_ble_eq_true rfl)⟩ dX2_become_18 (by rintro v w ⟨rfl, rfl⟩; rfl) (fun _ _ h => h.elim) (fun _ _ h => h.elim) ?_
      rintro v w ⟨rfl, rfl⟩
      rw [zl_key_at h12 hr]
      refine zs_eq (wl' := zr_W 0 d1 ++ zr_W 3 d) (st' := [.int r.1, .ref 0]) rfl rfl rfl rfl ?_
      refine zs_aload_n B dX2_become_21 (i := 1) rfl rfl ?_
      refine zs_iload_n B dX2_become_22 (i := 2) rfl rfl ?_
      refine zs_callV (n := 1) [3, 4, 5] B (zr_valueIn hl D dA d L hR (nI j)) gX2_become_X2_valueIn rfl ⟨rfl, by decide, by decide, by decide +kernel⟩ rfl (by rfl) rfl rfl rfl (by rfl) ⟨(by exact Nat.le_of_ble_eq_true rfl), (by exact Nat.le_of_ble_eq_true rfl)⟩ (by exact Nat.le_of_ble_eq_true rfl) ⟨(by exact Nat.le_of_ble_eq_true rfl), (by exact Nat.le_of_ble_eq_true rfl)⟩ dX2_become_23 (by rintro v w ⟨rfl, rfl⟩; rfl) (fun _ _ h => h.elim) (fun _ _ h => h.elim) ?_
      rintro v w ⟨rfl, rfl⟩
      rw [zl_val_at h12 hr]
      refine zs_eq (wl' := zr_W 0 d1 ++ zr_W 3 d) (st' := [.int r.2, .int r.1, .ref 0]) rfl rfl rfl rfl ?_
      have hl9 : (L.take j).length < 12 := by rw [List.length_take]; omega
      refine zs_callV (n := 2) [0, 1, 2] B (zr_append hl D dA d1 _ hinv hl9 r.1 r.2) gX2_become_X2_append rfl ⟨rfl, by decide, by decide, by decide +kernel⟩ rfl (by rfl) rfl rfl rfl (by rfl) ⟨(by exact Nat.le_of_ble_eq_true rfl), (by exact Nat.le_of_ble_eq_true rfl)⟩ (by exact Nat.le_of_ble_eq_true rfl) ⟨(by exact Nat.le_of_ble_eq_true rfl), (by exact Nat.le_of_ble_eq_true rfl)⟩ dX2_become_26 (by rintro v w ⟨rfl, d9, h9, rfl⟩; rfl) (fun _ _ h => h.elim) (fun _ _ h => h.elim) ?_
      rintro v w ⟨rfl, d2, hd2, rfl⟩
      rw [show [(r.1, r.2)] = [r] from rfl, zl_take_s hr] at hd2
      refine zs_eq (wl' := zr_W 0 d2 ++ zr_W 3 d) (st' := []) rfl rfl rfl rfl ?_
      refine zs_iinc B dX2_become_29 (i := 2) rfl (nI_1 j) (by decide) rfl ?_
      refine zs_goto (tgt := 7) B dX2_become_32 (by decide) ?_
      exact ih d2 (j + 1) (by omega) hd2
theorem zl_find_nodup {L : zr_L} (hN : (L.map (·.1)).Nodup) {j : Nat} {q : Int32 × Int32} (h : L[j]? = some q) : zl_find L q.1 = j := by
  refine zl_find_at h rfl (fun i r hi hr e => ?_)
  have h1 : (L.map (·.1))[i]? = some q.1 := by rw [List.getElem?_map, hr]; exact congrArg some e
  have h2 : (L.map (·.1))[j]? = some q.1 := by rw [List.getElem?_map, h]; rfl
  have hil := (List.getElem?_eq_some_iff.mp h1)
  have hjl := (List.getElem?_eq_some_iff.mp h2)
  exact (List.pairwise_iff_getElem.mp hN) i j hil.1 hjl.1 hi (hil.2.trans hjl.2.symm)
theorem zl_fi_at {L : zr_L} {key : Int32} {j : Nat} (hj : j < L.length) (h : zl_find L key = j) : zl_fi L key = nI j := by
  unfold zl_fi zf_i
  rw [h, if_pos hj]
set_option maxHeartbeats 4000000 in
theorem zr_tellsAlike {l : Launch} (hl : l.stackTraces = false) (D : va_G) (dA : Nat → ClassId) (d : zr_D) (L : zr_L) (hR : zr_R L d) (hN : (L.map (·.1)).Nodup) : zw_Sp l D dA yX2_tellsAlike wsX2_tellsAlike 3 0 0 [.ref 0] (zr_W 0 d) (fun v w => v = some (.int 1) ∧ w = zr_W 0 d) (fun _ _ => False) := by
  refine zw_start hl (by decide) rfl rfl (Nat.le_of_ble_eq_true rfl) ?_
  intro pr e s m args below meth c ad A hA B
  have h12 := hR.2.1
  refine zs_iconst (v := 0) B dX2_tellsAlike_0 (by decide) ?_
  refine zs_istore_n B dX2_tellsAlike_1 (i := 1) rfl (by decide) rfl ?_
  refine zs_eq (lv' := [some (.ref 0), some (.int (nI (zz 0)))]) rfl rfl rfl rfl ?_
  obtain ⟨k, hk⟩ : ∃ k, k + zz 0 = L.length := ⟨L.length, rfl⟩
  generalize zz 0 = j at hk ⊢
  induction k generalizing j with
  | zero =>
    refine zs_iload_n B dX2_tellsAlike_2 (i := 1) rfl rfl ?_
    refine zs_aload_n B dX2_tellsAlike_3 (i := 0) rfl rfl ?_
    refine zs_get B fX2_tellsAlike_18 rfl rfl dX2_tellsAlike_4 ?_
    refine zs_icmp_ge (tgt := 31) B dX2_tellsAlike_7 (by decide) (fun h1 => ?_) (fun h1 => ?_)
    · refine zs_iconst (v := 1) B dX2_tellsAlike_31 (by decide) ?_
      exact zs_zret hA B rfl rfl (by decide) (by decide) ⟨rfl, rfl⟩ dX2_tellsAlike_32
    · exact absurd (nI_le (by rw [hR.1]; omega) (by omega)) h1
  | succ k ih =>
    refine zs_iload_n B dX2_tellsAlike_2 (i := 1) rfl rfl ?_
    refine zs_aload_n B dX2_tellsAlike_3 (i := 0) rfl rfl ?_
    refine zs_get B fX2_tellsAlike_18 rfl rfl dX2_tellsAlike_4 ?_
    refine zs_icmp_ge (tgt := 31) B dX2_tellsAlike_7 (by decide) (fun h1 => ?_) (fun h1 => ?_)
    · exact absurd ((nI_leI (by rw [hR.1]; omega) (by omega)).mp h1) (by rw [hR.1]; omega)
    · obtain ⟨r, hr, -, -⟩ := hR.at (i := j) (by rw [hR.1]; omega)
      refine zs_aload_n B dX2_tellsAlike_10 (i := 0) rfl rfl ?_
      refine zs_aload_n B dX2_tellsAlike_11 (i := 0) rfl rfl ?_
      refine zs_iload_n B dX2_tellsAlike_12 (i := 1) rfl rfl ?_
      refine zs_callV (n := 1) [0, 1, 2] B (zr_keyIn hl D dA d L hR (nI j)) gX2_tellsAlike_X2_keyIn rfl ⟨rfl, by decide, by decide, by decide +kernel⟩ rfl (by rfl) rfl rfl rfl (by rfl) ⟨(by exact Nat.le_of_ble_eq_true rfl), (by exact Nat.le_of_ble_eq_true rfl)⟩ (by exact Nat.le_of_ble_eq_true rfl) ⟨(by exact Nat.le_of_ble_eq_true rfl), (by exact Nat.le_of_ble_eq_true rfl)⟩ dX2_tellsAlike_13 (by rintro v w ⟨rfl, rfl⟩; rfl) (fun _ _ h => h.elim) (fun _ _ h => h.elim) ?_
      rintro v w ⟨rfl, rfl⟩
      rw [zl_key_at h12 hr]
      refine zs_eq (wl' := zr_W 0 d) (st' := [.int r.1, .ref 0]) rfl rfl rfl rfl ?_
      refine zs_callV (n := 1) [0, 1, 2] B (zr_find hl D dA d L hR r.1) gX2_tellsAlike_X2_find rfl ⟨rfl, by decide, by decide, by decide +kernel⟩ rfl (by rfl) rfl rfl rfl (by rfl) ⟨(by exact Nat.le_of_ble_eq_true rfl), (by exact Nat.le_of_ble_eq_true rfl)⟩ (by exact Nat.le_of_ble_eq_true rfl) ⟨(by exact Nat.le_of_ble_eq_true rfl), (by exact Nat.le_of_ble_eq_true rfl)⟩ dX2_tellsAlike_16 (by rintro v w ⟨rfl, rfl⟩; rfl) (fun _ _ h => h.elim) (fun _ _ h => h.elim) ?_
      rintro v w ⟨rfl, rfl⟩
      rw [zl_fi_at (by omega) (zl_find_nodup hN hr)]
      refine zs_eq (wl' := zr_W 0 d) (st' := [.int (nI j)]) rfl rfl rfl rfl ?_
      refine zs_iload_n B dX2_tellsAlike_19 (i := 1) rfl rfl ?_
      refine zs_icmp_eq (tgt := 25) B dX2_tellsAlike_20 (by decide) (fun h2 => ?_) (fun h2 => ?_)
      · refine zs_iinc B dX2_tellsAlike_25 (i := 1) rfl (nI_1 j) (by decide) rfl ?_
        refine zs_goto (tgt := 2) B dX2_tellsAlike_28 (by decide) ?_
        exact ih (j + 1) (by omega)
      · exact absurd rfl h2
set_option maxHeartbeats 4000000 in
theorem zr_hasEntriesOf {l : Launch} (hl : l.stackTraces = false) (D : va_G) (dA : Nat → ClassId) (d d' : zr_D) (L L' : zr_L) (hR : zr_R L d) (hR' : zr_R L' d') (hN : (L.map (·.1)).Nodup) (hM : ∀ q ∈ L', q ∈ L) : zw_Sp l D dA yX2_hasEntriesOf wsX2_hasEntriesOf 3 0 0 [.ref 0, .ref 3] (zr_W 0 d ++ zr_W 3 d') (fun v w => v = some (.int 1) ∧ w = zr_W 0 d ++ zr_W 3 d') (fun _ _ => False) := by
  refine zw_start hl (by decide) rfl rfl (Nat.le_of_ble_eq_true rfl) ?_
  intro pr e s m args below meth c ad A hA B
  have h12 := hR.2.1
  have h12' := hR'.2.1
  refine zs_iconst (v := 0) B dX2_hasEntriesOf_0 (by decide) ?_
  refine zs_istore_n B dX2_hasEntriesOf_1 (i := 2) rfl (by decide) rfl ?_
  refine zs_eq (lv' := [some (.ref 0), some (.ref 3), some (.int (nI (zz 0))), none]) rfl rfl rfl rfl ?_
  obtain ⟨o, ho⟩ : ∃ o : Option Value, o = none := ⟨_, rfl⟩
  have hok : zw_ok [some (.ref 0), some (.ref 3), some (.int (nI (zz 0))), o] 3 = true := rfl
  rw [← ho]
  clear ho hok
  obtain ⟨k, hk⟩ : ∃ k, k + zz 0 = L'.length := ⟨L'.length, rfl⟩
  generalize zz 0 = j at hk ⊢
  induction k generalizing j o with
  | zero =>
    refine zs_iload_n B dX2_hasEntriesOf_2 (i := 2) rfl rfl ?_
    refine zs_aload_n B dX2_hasEntriesOf_3 (i := 1) rfl rfl ?_
    refine zs_get B fX2_hasEntriesOf_18 rfl rfl dX2_hasEntriesOf_4 ?_
    refine zs_icmp_ge (tgt := 46) B dX2_hasEntriesOf_7 (by decide) (fun h1 => ?_) (fun h1 => ?_)
    · refine zs_iconst (v := 1) B dX2_hasEntriesOf_46 (by decide) ?_
      exact zs_zret hA B rfl rfl (by decide) (by decide) ⟨rfl, rfl⟩ dX2_hasEntriesOf_47
    · exact absurd (nI_le (by rw [hR'.1]; omega) (by omega)) h1
  | succ k ih =>
    refine zs_iload_n B dX2_hasEntriesOf_2 (i := 2) rfl rfl ?_
    refine zs_aload_n B dX2_hasEntriesOf_3 (i := 1) rfl rfl ?_
    refine zs_get B fX2_hasEntriesOf_18 rfl rfl dX2_hasEntriesOf_4 ?_
    refine zs_icmp_ge (tgt := 46) B dX2_hasEntriesOf_7 (by decide) (fun h1 => ?_) (fun h1 => ?_)
    · exact absurd ((nI_leI (by rw [hR'.1]; omega) (by omega)).mp h1) (by rw [hR'.1]; omega)
    · obtain ⟨r, hr, -, -⟩ := hR'.at (i := j) (by rw [hR'.1]; omega)
      obtain ⟨p, hp⟩ := List.getElem?_of_mem (hM r (List.mem_of_getElem? hr))
      have hpl := (List.getElem?_eq_some_iff.mp hp).1
      refine zs_aload_n B dX2_hasEntriesOf_10 (i := 0) rfl rfl ?_
      refine zs_aload_n B dX2_hasEntriesOf_11 (i := 1) rfl rfl ?_
      refine zs_iload_n B dX2_hasEntriesOf_12 (i := 2) rfl rfl ?_
      refine zs_callV (n := 1) [3, 4, 5] B (zr_keyIn hl D dA d' L' hR' (nI j)) gX2_hasEntriesOf_X2_keyIn rfl ⟨rfl, by decide, by decide, by decide +kernel⟩ rfl (by rfl) rfl rfl rfl (by rfl) ⟨(by exact Nat.le_of_ble_eq_true rfl), (by exact Nat.le_of_ble_eq_true rfl)⟩ (by exact Nat.le_of_ble_eq_true rfl) ⟨(by exact Nat.le_of_ble_eq_true rfl), (by exact Nat.le_of_ble_eq_true rfl)⟩ dX2_hasEntriesOf_13 (by rintro v w ⟨rfl, rfl⟩; rfl) (fun _ _ h => h.elim) (fun _ _ h => h.elim) ?_
      rintro v w ⟨rfl, rfl⟩
      rw [zl_key_at h12' hr]
      refine zs_eq (wl' := zr_W 0 d ++ zr_W 3 d') (st' := [.int r.1, .ref 0]) rfl rfl rfl rfl ?_
      refine zs_callV (n := 1) [0, 1, 2] B (zr_find hl D dA d L hR r.1) gX2_hasEntriesOf_X2_find rfl ⟨rfl, by decide, by decide, by decide +kernel⟩ rfl (by rfl) rfl rfl rfl (by rfl) ⟨(by exact Nat.le_of_ble_eq_true rfl), (by exact Nat.le_of_ble_eq_true rfl)⟩ (by exact Nat.le_of_ble_eq_true rfl) ⟨(by exact Nat.le_of_ble_eq_true rfl), (by exact Nat.le_of_ble_eq_true rfl)⟩ dX2_hasEntriesOf_16 (by rintro v w ⟨rfl, rfl⟩; rfl) (fun _ _ h => h.elim) (fun _ _ h => h.elim) ?_
      rintro v w ⟨rfl, rfl⟩
      rw [zl_fi_at hpl (zl_find_nodup hN hp)]
      refine zs_eq (wl' := zr_W 0 d ++ zr_W 3 d') (st' := [.int (nI p)]) rfl rfl rfl rfl ?_
      refine zs_istore_n B dX2_hasEntriesOf_19 (i := 3) rfl (by decide) rfl ?_
      refine zs_iload_n B dX2_hasEntriesOf_20 (i := 3) rfl rfl ?_
      refine zs_iconst (v := (-1)) B dX2_hasEntriesOf_21 (by decide) ?_
      refine zs_icmp_eq (tgt := 38) B dX2_hasEntriesOf_22 (by decide) (fun h2 => ?_) (fun h2 => ?_)
      · exfalso
        have := nI_pos (n := p) (by omega)
        rw [h2] at this
        exact this (by decide)
      · refine zs_aload_n B dX2_hasEntriesOf_25 (i := 0) rfl rfl ?_
        refine zs_iload_n B dX2_hasEntriesOf_26 (i := 3) rfl rfl ?_
        refine zs_callV (n := 1) [0, 1, 2] B (zr_valueIn hl D dA d L hR (nI p)) gX2_hasEntriesOf_X2_valueIn rfl ⟨rfl, by decide, by decide, by decide +kernel⟩ rfl (by rfl) rfl rfl rfl (by rfl) ⟨(by exact Nat.le_of_ble_eq_true rfl), (by exact Nat.le_of_ble_eq_true rfl)⟩ (by exact Nat.le_of_ble_eq_true rfl) ⟨(by exact Nat.le_of_ble_eq_true rfl), (by exact Nat.le_of_ble_eq_true rfl)⟩ dX2_hasEntriesOf_27 (by rintro v w ⟨rfl, rfl⟩; rfl) (fun _ _ h => h.elim) (fun _ _ h => h.elim) ?_
        rintro v w ⟨rfl, rfl⟩
        rw [zl_val_at h12 hp]
        refine zs_eq (wl' := zr_W 0 d ++ zr_W 3 d') (st' := [.int r.2]) rfl rfl rfl rfl ?_
        refine zs_aload_n B dX2_hasEntriesOf_30 (i := 1) rfl rfl ?_
        refine zs_iload_n B dX2_hasEntriesOf_31 (i := 2) rfl rfl ?_
        refine zs_callV (n := 1) [3, 4, 5] B (zr_valueIn hl D dA d' L' hR' (nI j)) gX2_hasEntriesOf_X2_valueIn rfl ⟨rfl, by decide, by decide, by decide +kernel⟩ rfl (by rfl) rfl rfl rfl (by rfl) ⟨(by exact Nat.le_of_ble_eq_true rfl), (by exact Nat.le_of_ble_eq_true rfl)⟩ (by exact Nat.le_of_ble_eq_true rfl) ⟨(by exact Nat.le_of_ble_eq_true rfl), (by exact Nat.le_of_ble_eq_true rfl)⟩ dX2_hasEntriesOf_32 (by rintro v w ⟨rfl, rfl⟩; rfl) (fun _ _ h => h.elim) (fun _ _ h => h.elim) ?_
        rintro v w ⟨rfl, rfl⟩
        rw [zl_val_at h12' hr]
        refine zs_eq (wl' := zr_W 0 d ++ zr_W 3 d') (st' := [.int r.2, .int r.2]) rfl rfl rfl rfl ?_
        refine zs_icmp_eq (tgt := 40) B dX2_hasEntriesOf_35 (by decide) (fun h3 => ?_) (fun h3 => absurd rfl h3)
        refine zs_iinc B dX2_hasEntriesOf_40 (i := 2) rfl (nI_1 j) (by decide) rfl ?_
        refine zs_goto (tgt := 2) B dX2_hasEntriesOf_43 (by decide) ?_
        exact ih (some (.int (nI p))) (j + 1) (by omega)
set_option maxHeartbeats 4000000 in
theorem zr_sameAs {l : Launch} (hl : l.stackTraces = false) (D : va_G) (dA : Nat → ClassId) (d d' : zr_D) (L : zr_L) (hR : zr_R L d) (hR' : zr_R L d') : zw_Sp l D dA yX2_sameAs wsX2_sameAs 2 0 0 [.ref 0, .ref 3] (zr_W 0 d ++ zr_W 3 d') (fun v w => v = some (.int 1) ∧ w = zr_W 0 d ++ zr_W 3 d') (fun _ _ => False) := by
  refine zw_start hl (by decide) rfl rfl (Nat.le_of_ble_eq_true rfl) ?_
  intro pr e s m args below meth c ad A hA B
  have h12 := hR.2.1
  refine zs_aload_n B dX2_sameAs_0 (i := 0) rfl rfl ?_
  refine zs_get B fX2_sameAs_18 rfl rfl dX2_sameAs_1 ?_
  refine zs_aload_n B dX2_sameAs_4 (i := 1) rfl rfl ?_
  refine zs_get B fX2_sameAs_18 rfl rfl dX2_sameAs_5 ?_
  refine zs_icmp_eq (tgt := 13) B dX2_sameAs_8 (by decide) (fun h0 => ?_) (fun h0 => absurd (by rw [hR.1, hR'.1]) h0)
  refine zs_iconst (v := 0) B dX2_sameAs_13 (by decide) ?_
  refine zs_istore_n B dX2_sameAs_14 (i := 2) rfl (by decide) rfl ?_
  refine zs_eq (lv' := [some (.ref 0), some (.ref 3), some (.int (nI (zz 0)))]) rfl rfl rfl rfl ?_
  obtain ⟨k, hk⟩ : ∃ k, k + zz 0 = L.length := ⟨L.length, rfl⟩
  generalize zz 0 = j at hk ⊢
  induction k generalizing j with
  | zero =>
    refine zs_iload_n B dX2_sameAs_15 (i := 2) rfl rfl ?_
    refine zs_aload_n B dX2_sameAs_16 (i := 0) rfl rfl ?_
    refine zs_get B fX2_sameAs_18 rfl rfl dX2_sameAs_17 ?_
    refine zs_icmp_ge (tgt := 57) B dX2_sameAs_20 (by decide) (fun h1 => ?_) (fun h1 => ?_)
    · refine zs_iconst (v := 1) B dX2_sameAs_57 (by decide) ?_
      exact zs_zret hA B rfl rfl (by decide) (by decide) ⟨rfl, rfl⟩ dX2_sameAs_58
    · exact absurd (nI_le (by rw [hR.1]; omega) (by omega)) h1
  | succ k ih =>
    refine zs_iload_n B dX2_sameAs_15 (i := 2) rfl rfl ?_
    refine zs_aload_n B dX2_sameAs_16 (i := 0) rfl rfl ?_
    refine zs_get B fX2_sameAs_18 rfl rfl dX2_sameAs_17 ?_
    refine zs_icmp_ge (tgt := 57) B dX2_sameAs_20 (by decide) (fun h1 => ?_) (fun h1 => ?_)
    · exact absurd ((nI_leI (by rw [hR.1]; omega) (by omega)).mp h1) (by rw [hR.1]; omega)
    · obtain ⟨r, hr, -, -⟩ := hR.at (i := j) (by rw [hR.1]; omega)
      refine zs_aload_n B dX2_sameAs_23 (i := 0) rfl rfl ?_
      refine zs_iload_n B dX2_sameAs_24 (i := 2) rfl rfl ?_
      refine zs_callV (n := 1) [0, 1, 2] B (zr_keyIn hl D dA d L hR (nI j)) gX2_sameAs_X2_keyIn rfl ⟨rfl, by decide, by decide, by decide +kernel⟩ rfl (by rfl) rfl rfl rfl (by rfl) ⟨(by exact Nat.le_of_ble_eq_true rfl), (by exact Nat.le_of_ble_eq_true rfl)⟩ (by exact Nat.le_of_ble_eq_true rfl) ⟨(by exact Nat.le_of_ble_eq_true rfl), (by exact Nat.le_of_ble_eq_true rfl)⟩ dX2_sameAs_25 (by rintro v w ⟨rfl, rfl⟩; rfl) (fun _ _ h => h.elim) (fun _ _ h => h.elim) ?_
      rintro v w ⟨rfl, rfl⟩
      rw [zl_key_at h12 hr]
      refine zs_eq (wl' := zr_W 0 d ++ zr_W 3 d') (st' := [.int r.1]) rfl rfl rfl rfl ?_
      refine zs_aload_n B dX2_sameAs_28 (i := 1) rfl rfl ?_
      refine zs_iload_n B dX2_sameAs_29 (i := 2) rfl rfl ?_
      refine zs_callV (n := 1) [3, 4, 5] B (zr_keyIn hl D dA d' L hR' (nI j)) gX2_sameAs_X2_keyIn rfl ⟨rfl, by decide, by decide, by decide +kernel⟩ rfl (by rfl) rfl rfl rfl (by rfl) ⟨(by exact Nat.le_of_ble_eq_true rfl), (by exact Nat.le_of_ble_eq_true rfl)⟩ (by exact Nat.le_of_ble_eq_true rfl) ⟨(by exact Nat.le_of_ble_eq_true rfl), (by exact Nat.le_of_ble_eq_true rfl)⟩ dX2_sameAs_30 (by rintro v w ⟨rfl, rfl⟩; rfl) (fun _ _ h => h.elim) (fun _ _ h => h.elim) ?_
      rintro v w ⟨rfl, rfl⟩
      rw [zl_key_at h12 hr]
      refine zs_eq (wl' := zr_W 0 d ++ zr_W 3 d') (st' := [.int r.1, .int r.1]) rfl rfl rfl rfl ?_
      refine zs_icmp_ne (tgt := 49) B dX2_sameAs_33 (by decide) (fun h2 => absurd rfl h2) (fun h2 => ?_)
      refine zs_aload_n B dX2_sameAs_36 (i := 0) rfl rfl ?_
      refine zs_iload_n B dX2_sameAs_37 (i := 2) rfl rfl ?_
      refine zs_callV (n := 1) [0, 1, 2] B (zr_valueIn hl D dA d L hR (nI j)) gX2_sameAs_X2_valueIn rfl ⟨rfl, by decide, by decide, by decide +kernel⟩ rfl (by rfl) rfl rfl rfl (by rfl) ⟨(by exact Nat.le_of_ble_eq_true rfl), (by exact Nat.le_of_ble_eq_true rfl)⟩ (by exact Nat.le_of_ble_eq_true rfl) ⟨(by exact Nat.le_of_ble_eq_true rfl), (by exact Nat.le_of_ble_eq_true rfl)⟩ dX2_sameAs_38 (by rintro v w ⟨rfl, rfl⟩; rfl) (fun _ _ h => h.elim) (fun _ _ h => h.elim) ?_
      rintro v w ⟨rfl, rfl⟩
      rw [zl_val_at h12 hr]
      refine zs_eq (wl' := zr_W 0 d ++ zr_W 3 d') (st' := [.int r.2]) rfl rfl rfl rfl ?_
      refine zs_aload_n B dX2_sameAs_41 (i := 1) rfl rfl ?_
      refine zs_iload_n B dX2_sameAs_42 (i := 2) rfl rfl ?_
      refine zs_callV (n := 1) [3, 4, 5] B (zr_valueIn hl D dA d' L hR' (nI j)) gX2_sameAs_X2_valueIn rfl ⟨rfl, by decide, by decide, by decide +kernel⟩ rfl (by rfl) rfl rfl rfl (by rfl) ⟨(by exact Nat.le_of_ble_eq_true rfl), (by exact Nat.le_of_ble_eq_true rfl)⟩ (by exact Nat.le_of_ble_eq_true rfl) ⟨(by exact Nat.le_of_ble_eq_true rfl), (by exact Nat.le_of_ble_eq_true rfl)⟩ dX2_sameAs_43 (by rintro v w ⟨rfl, rfl⟩; rfl) (fun _ _ h => h.elim) (fun _ _ h => h.elim) ?_
      rintro v w ⟨rfl, rfl⟩
      rw [zl_val_at h12 hr]
      refine zs_eq (wl' := zr_W 0 d ++ zr_W 3 d') (st' := [.int r.2, .int r.2]) rfl rfl rfl rfl ?_
      refine zs_icmp_eq (tgt := 51) B dX2_sameAs_46 (by decide) (fun h3 => ?_) (fun h3 => absurd rfl h3)
      refine zs_iinc B dX2_sameAs_51 (i := 2) rfl (nI_1 j) (by decide) rfl ?_
      refine zs_goto (tgt := 15) B dX2_sameAs_54 (by decide) ?_
      exact ih (j + 1) (by omega)
