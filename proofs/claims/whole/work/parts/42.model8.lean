/-! the model: setAt, removeAt, thin -/
theorem zm_rowmem {S : zp_L} (hJ : zp_J S) (o : Int32) {j : Nat} {q : Int32 × Int32} (h : (zp_row S o)[j]? = some q) : q ∈ S.1 := (zp_row_sub hJ o q).mp (List.mem_of_getElem? h)
theorem zl_val_mem {L : zr_L} (hL : L.length ≤ 12) (hN : (L.map (·.1)).Nodup) {q : Int32 × Int32} (h : q ∈ L) : zl_val L (zl_fo L q.1) = q.2 := by
  obtain ⟨i, hi⟩ := List.getElem?_of_mem h
  have hlt := (List.getElem?_eq_some_iff.mp hi).1
  have hf := zl_find_nodup hN hi
  rw [zl_fo_eq hL, hf, if_pos hlt]
  unfold zl_val
  rw [Option.bind_some, hi]
set_option maxHeartbeats 8000000 in
theorem zm_setAt {l : Launch} (hl : l.stackTraces = false) (D : va_G) (dA : Nat → ClassId) (d : zm_D) (U : zm_U) (t : Int32) (hR : zm_R U t d) (hI : zm_I U) (o q x : Int32) :
    zw_Sp l D dA yX5_setAt wsX5_setAt 5 0 0 [.ref 0, .int o, .int q, .int x] (zm_W 0 d)
    (fun r w => ∃ d', ((¬ (o = 99 ∨ o = 97) ∧ r = some (.int 0) ∧ zm_R U 1 d') ∨ ((o = 99 ∨ o = 97) ∧ ¬ (zf_ix q U.1.1.length).isSome = true ∧ r = some (.int 0) ∧ zm_R U 2 d') ∨ ((o = 99 ∨ o = 97) ∧ (zf_ix q U.1.1.length).isSome = true ∧ r = some (.int (zl_val (zp_row U.1 o) (zf_ix q (zp_row U.1 o).length))) ∧ zm_R (zm_set1 (zm_chg U) (zp_give U.1 (zl_key (zp_row U.1 o) (zf_ix q (zp_row U.1 o).length)) x)) 0 d')) ∧ w = zm_W 0 d') (fun _ _ => False) := by
  refine zw_start hl (by decide) rfl rfl (Nat.le_of_ble_eq_true rfl) ?_
  intro pr e s m args below meth c ad A hA B
  obtain ⟨a, v⟩ := d
  have hJ := hI.1.1
  have h12 := hJ.l12
  refine zs_aload_n B dX5_setAt_0 (i := 0) rfl rfl ?_
  refine zs_iload_n B dX5_setAt_1 (i := 1) rfl rfl ?_
  refine zs_callS (n := 1) [] B (zm_isOrder hl D dA o) gX5_setAt_X5_isOrder rfl ⟨by decide, by decide, by decide +kernel⟩ rfl (by rfl) rfl (by rfl) ⟨(by exact Nat.le_of_ble_eq_true rfl), (by exact Nat.le_of_ble_eq_true rfl)⟩ (by exact Nat.le_of_ble_eq_true rfl) ⟨(by exact Nat.le_of_ble_eq_true rfl), (by exact Nat.le_of_ble_eq_true rfl)⟩ dX5_setAt_2 (by rintro v w ⟨rfl, rfl⟩; rfl) (fun _ _ h => h.elim) (fun _ _ h => h.elim) ?_
  rintro r w ⟨rfl, rfl⟩
  refine zs_eq (wl' := zm_W 0 (a, v)) (st' := [.int (zf_b (decide (o = 99 ∨ o = 97))), .ref 0]) rfl rfl rfl rfl ?_
  refine zs_iconst (v := 1) B dX5_setAt_5 (by decide) ?_
  refine zs_callV0 (n := 2) B (zm_no hl D dA a v (decide (o = 99 ∨ o = 97)) 1) gX5_setAt_X5_no rfl ⟨rfl, by decide, by decide, by decide +kernel⟩ rfl rfl rfl (by rfl) ⟨(by exact Nat.le_of_ble_eq_true rfl), (by exact Nat.le_of_ble_eq_true rfl)⟩ (by exact Nat.le_of_ble_eq_true rfl) ⟨(by exact Nat.le_of_ble_eq_true rfl), (by exact Nat.le_of_ble_eq_true rfl)⟩ dX5_setAt_6 (by rintro v w ⟨rfl, rfl⟩; rfl) (fun _ _ h => h.elim) (fun _ _ h => h.elim) ?_
  rintro r w ⟨rfl, rfl⟩
  by_cases hin : o = 99 ∨ o = 97
  · rw [decide_eq_true hin]
    refine zs_if_ne (tgt := 31) B dX5_setAt_9 (by decide) (fun h => absurd rfl h) (fun _ => ?_)
    have hv : v.1 = nI U.1.1.length := hR.1.1
    refine zs_aload_n B dX5_setAt_12 (i := 0) rfl rfl ?_
    refine zs_iload_n B dX5_setAt_13 (i := 2) rfl rfl ?_
    refine zs_iconst (v := 0) B dX5_setAt_14 (by decide) ?_
    refine zs_aload_n B dX5_setAt_15 (i := 0) rfl rfl ?_
    refine zs_get B fX5_setAt_57 rfl rfl dX5_setAt_16 ?_
    refine zs_eq (wl' := zm_W 0 (a, zm_th v 0)) (st' := [.int (nI U.1.1.length), .int 0, .int q, .ref 0]) rfl rfl (by rw [← hv]; rfl) rfl ?_
    refine zs_iconst (v := 1) B dX5_setAt_19 (by decide) ?_
    refine zs_isub B dX5_setAt_20 ?_
    refine zs_callS (n := 3) [] B (zm_in hl D dA q 0 (nI U.1.1.length - 1)) gX5_setAt_X5_in rfl ⟨by decide, by decide, by decide +kernel⟩ rfl (by rfl) rfl (by rfl) ⟨(by exact Nat.le_of_ble_eq_true rfl), (by exact Nat.le_of_ble_eq_true rfl)⟩ (by exact Nat.le_of_ble_eq_true rfl) ⟨(by exact Nat.le_of_ble_eq_true rfl), (by exact Nat.le_of_ble_eq_true rfl)⟩ dX5_setAt_21 (by rintro v w ⟨rfl, rfl⟩; rfl) (fun _ _ h => h.elim) (fun _ _ h => h.elim) ?_
    rintro r w ⟨rfl, rfl⟩
    refine zs_eq (wl' := zm_W 0 (a, zm_th v 0)) (st' := [.int (zf_b (decide (0 ≤ q ∧ q ≤ nI U.1.1.length - 1))), .ref 0]) rfl rfl rfl rfl ?_
    refine zs_iconst (v := 2) B dX5_setAt_24 (by decide) ?_
    refine zs_callV0 (n := 2) B (zm_no hl D dA a (zm_th v 0) (decide (0 ≤ q ∧ q ≤ nI U.1.1.length - 1)) 2) gX5_setAt_X5_no rfl ⟨rfl, by decide, by decide, by decide +kernel⟩ rfl rfl rfl (by rfl) ⟨(by exact Nat.le_of_ble_eq_true rfl), (by exact Nat.le_of_ble_eq_true rfl)⟩ (by exact Nat.le_of_ble_eq_true rfl) ⟨(by exact Nat.le_of_ble_eq_true rfl), (by exact Nat.le_of_ble_eq_true rfl)⟩ dX5_setAt_25 (by rintro v w ⟨rfl, rfl⟩; rfl) (fun _ _ h => h.elim) (fun _ _ h => h.elim) ?_
    rintro r w ⟨rfl, rfl⟩
    by_cases hq : 0 ≤ q ∧ q ≤ nI U.1.1.length - 1
    · rw [decide_eq_true hq]
      have hq2 := (zm_ixle h12 q).mp hq
      refine zs_if_eq (tgt := 33) B dX5_setAt_28 (by decide) (fun _ => ?_) (fun h => absurd rfl h)
      obtain ⟨j, hj⟩ := Option.isSome_iff_exists.mp hq2
      rcases zf_ix_cases q (n := U.1.1.length) (by omega) with ⟨-, h⟩ | ⟨-, -, h⟩ | ⟨j', hj', hqj, hix⟩
      · rw [h] at hj; cases hj
      · rw [h] at hj; cases hj
      · subst hqj
        have hrl := zp_row_len hJ o
        obtain ⟨q0, hq0⟩ : ∃ q0, (zp_row U.1 o)[j']? = some q0 := ⟨_, List.getElem?_eq_getElem (by rw [hrl]; exact hj')⟩
        have hm0 := zm_rowmem hJ o hq0
        have hh : zl_find U.1.1 q0.1 < U.1.1.length := zl_find_mem.mpr (List.mem_map.mpr ⟨q0, hm0, rfl⟩)
        refine zs_aload_n B dX5_setAt_33 (i := 0) rfl rfl ?_
        refine zs_callV0 (n := 0) B (zm_changes hl D dA (a, zm_th (zm_th v 0) 0) U 0 (hR.th2 0 0) hI) gX5_setAt_X5_changes rfl ⟨rfl, by decide, by decide, by decide +kernel⟩ rfl rfl rfl (by rfl) ⟨(by exact Nat.le_of_ble_eq_true rfl), (by exact Nat.le_of_ble_eq_true rfl)⟩ (by exact Nat.le_of_ble_eq_true rfl) ⟨(by exact Nat.le_of_ble_eq_true rfl), (by exact Nat.le_of_ble_eq_true rfl)⟩ dX5_setAt_34 (by rintro v w ⟨rfl, x9, h9, rfl⟩; rfl) (fun _ _ h => h.elim) (fun _ _ h => h.elim) ?_
        rintro r w ⟨rfl, ⟨a1, v1⟩, hR1, rfl⟩
        refine zs_aload_n B dX5_setAt_37 (i := 0) rfl rfl ?_
        refine zs_aload_n B dX5_setAt_38 (i := 0) rfl rfl ?_
        refine zs_get B fX5_setAt_9 rfl rfl dX5_setAt_39 ?_
        refine zs_aload_n B dX5_setAt_42 (i := 0) rfl rfl ?_
        refine zs_iload_n B dX5_setAt_43 (i := 1) rfl rfl ?_
        refine zs_callV0 (n := 1) B (zm_rowM hl D dA (a1, v1) o) gX5_setAt_X5_row rfl ⟨rfl, by decide, by decide, by decide +kernel⟩ rfl rfl rfl (by rfl) ⟨(by exact Nat.le_of_ble_eq_true rfl), (by exact Nat.le_of_ble_eq_true rfl)⟩ (by exact Nat.le_of_ble_eq_true rfl) ⟨(by exact Nat.le_of_ble_eq_true rfl), (by exact Nat.le_of_ble_eq_true rfl)⟩ dX5_setAt_44 (by rintro v w ⟨rfl, rfl⟩; rfl) (fun _ _ h => h.elim) (fun _ _ h => h.elim) ?_
        rintro r w ⟨rfl, rfl⟩
        refine zs_iload_n B dX5_setAt_47 (i := 2) rfl rfl ?_
        refine zs_mget (zm_ro o) j' (zm_roA _) (by omega) rfl B dX5_setAt_48 ?_
        rw [show a1 (zm_ro o) j' = q0.1 from zm_rowR hR1.1 hin j' q0 hq0]
        refine zs_callV0 (n := 2) B (zm_place hl D dA a1 v1 1 zm_a1 U.1.1 hR1.1.2.1 hR1.1.1 (by omega) q0.1) gX5_setAt_X5_place rfl ⟨rfl, by decide, by decide, by decide +kernel⟩ rfl rfl rfl (by rfl) ⟨(by exact Nat.le_of_ble_eq_true rfl), (by exact Nat.le_of_ble_eq_true rfl)⟩ (by exact Nat.le_of_ble_eq_true rfl) ⟨(by exact Nat.le_of_ble_eq_true rfl), (by exact Nat.le_of_ble_eq_true rfl)⟩ dX5_setAt_49 (by rintro v w ⟨rfl, rfl⟩; rfl) (fun _ _ h => h.elim) (fun _ _ h => h.elim) ?_
        rintro r w ⟨rfl, rfl⟩
        refine zs_istore B dX5_setAt_52 (i := 4) (by decide) rfl ?_
        refine zs_aload_n B dX5_setAt_54 (i := 0) rfl rfl ?_
        refine zs_get B fX5_setAt_13 rfl rfl dX5_setAt_55 ?_
        refine zs_iload B dX5_setAt_58 (i := 4) rfl ?_
        refine zs_mget 2 (zl_find U.1.1 q0.1) zm_a2 (by omega) (zl_fi_in hh) B dX5_setAt_60 ?_
        rw [show a1 2 (zl_find U.1.1 q0.1) = q0.2 from (zm_valAt (L := U.1.1) hR1.1.2.2.1 h12 hh).trans (zl_val_mem h12 hJ.2.2.2.2.2.2.1 hm0)]
        refine zs_istore B dX5_setAt_61 (i := 5) (by decide) rfl ?_
        refine zs_aload_n B dX5_setAt_63 (i := 0) rfl rfl ?_
        refine zs_get B fX5_setAt_13 rfl rfl dX5_setAt_64 ?_
        refine zs_iload B dX5_setAt_67 (i := 4) rfl ?_
        refine zs_iload_n B dX5_setAt_69 (i := 3) rfl rfl ?_
        refine zs_mset 2 (zl_find U.1.1 q0.1) zm_a2 (by omega) (zl_fi_in hh) B dX5_setAt_70 ?_
        refine zs_iload B dX5_setAt_71 (i := 5) rfl ?_
        refine zs_zret hA B rfl rfl (by decide) (by decide) ⟨(va_up a1 2 (upd (a1 2) (zl_find U.1.1 q0.1) x), v1), Or.inr (Or.inr ⟨hin, hq2, ?_, ?_⟩), rfl⟩ dX5_setAt_73
        · rw [zl_val_at (by rw [hrl]; exact h12) hq0]
        · rw [zl_key_at (by rw [hrl]; exact h12) hq0]
          exact zm_R.give hR1 hJ hh x
    · rw [decide_eq_false hq]
      refine zs_if_eq (tgt := 33) B dX5_setAt_28 (by decide) (fun h => absurd h (by decide)) (fun _ => ?_)
      refine zs_iconst (v := 0) B dX5_setAt_31 (by decide) ?_
      exact zs_zret hA B rfl rfl (by decide) (by decide) ⟨(a, zm_th (zm_th v 0) 2), Or.inr (Or.inl ⟨hin, fun p => hq ((zm_ixle h12 q).mpr p), rfl, hR.th2 0 2⟩), rfl⟩ dX5_setAt_32
  · rw [decide_eq_false hin]
    refine zs_if_ne (tgt := 31) B dX5_setAt_9 (by decide) (fun _ => ?_) (fun h => absurd (show zf_b (!false) = 0 from h) (by decide))
    refine zs_iconst (v := 0) B dX5_setAt_31 (by decide) ?_
    exact zs_zret hA B rfl rfl (by decide) (by decide) ⟨(a, zm_th v 1), Or.inl ⟨hin, rfl, hR.th 1⟩, rfl⟩ dX5_setAt_32
set_option maxHeartbeats 8000000 in
theorem zm_removeAt {l : Launch} (hl : l.stackTraces = false) (D : va_G) (dA : Nat → ClassId) (d : zm_D) (U : zm_U) (t : Int32) (hR : zm_R U t d) (hI : zm_I U) (o q : Int32) :
    zw_Sp l D dA yX5_removeAt wsX5_removeAt 5 0 0 [.ref 0, .int o, .int q] (zm_W 0 d)
    (fun r w => ∃ d', ((¬ (o = 99 ∨ o = 97) ∧ r = some (.int 0) ∧ zm_R U 1 d') ∨ ((o = 99 ∨ o = 97) ∧ ¬ (zf_ix q U.1.1.length).isSome = true ∧ r = some (.int 0) ∧ zm_R U 2 d') ∨ ((o = 99 ∨ o = 97) ∧ (zf_ix q U.1.1.length).isSome = true ∧ r = some (.int (zl_key (zp_row U.1 o) (zf_ix q (zp_row U.1 o).length))) ∧ zm_R (zm_set1 (zm_chg U) (zp_take U.1 (zl_key (zp_row U.1 o) (zf_ix q (zp_row U.1 o).length)))) 0 d')) ∧ w = zm_W 0 d') (fun _ _ => False) := by
  refine zw_start hl (by decide) rfl rfl (Nat.le_of_ble_eq_true rfl) ?_
  intro pr e s m args below meth c ad A hA B
  obtain ⟨a, v⟩ := d
  have hJ := hI.1.1
  have h12 := hJ.l12
  refine zs_aload_n B dX5_removeAt_0 (i := 0) rfl rfl ?_
  refine zs_iload_n B dX5_removeAt_1 (i := 1) rfl rfl ?_
  refine zs_callS (n := 1) [] B (zm_isOrder hl D dA o) gX5_removeAt_X5_isOrder rfl ⟨by decide, by decide, by decide +kernel⟩ rfl (by rfl) rfl (by rfl) ⟨(by exact Nat.le_of_ble_eq_true rfl), (by exact Nat.le_of_ble_eq_true rfl)⟩ (by exact Nat.le_of_ble_eq_true rfl) ⟨(by exact Nat.le_of_ble_eq_true rfl), (by exact Nat.le_of_ble_eq_true rfl)⟩ dX5_removeAt_2 (by rintro v w ⟨rfl, rfl⟩; rfl) (fun _ _ h => h.elim) (fun _ _ h => h.elim) ?_
  rintro r w ⟨rfl, rfl⟩
  refine zs_eq (wl' := zm_W 0 (a, v)) (st' := [.int (zf_b (decide (o = 99 ∨ o = 97))), .ref 0]) rfl rfl rfl rfl ?_
  refine zs_iconst (v := 1) B dX5_removeAt_5 (by decide) ?_
  refine zs_callV0 (n := 2) B (zm_no hl D dA a v (decide (o = 99 ∨ o = 97)) 1) gX5_removeAt_X5_no rfl ⟨rfl, by decide, by decide, by decide +kernel⟩ rfl rfl rfl (by rfl) ⟨(by exact Nat.le_of_ble_eq_true rfl), (by exact Nat.le_of_ble_eq_true rfl)⟩ (by exact Nat.le_of_ble_eq_true rfl) ⟨(by exact Nat.le_of_ble_eq_true rfl), (by exact Nat.le_of_ble_eq_true rfl)⟩ dX5_removeAt_6 (by rintro v w ⟨rfl, rfl⟩; rfl) (fun _ _ h => h.elim) (fun _ _ h => h.elim) ?_
  rintro r w ⟨rfl, rfl⟩
  by_cases hin : o = 99 ∨ o = 97
  · rw [decide_eq_true hin]
    refine zs_if_ne (tgt := 31) B dX5_removeAt_9 (by decide) (fun h => absurd rfl h) (fun _ => ?_)
    have hv : v.1 = nI U.1.1.length := hR.1.1
    refine zs_aload_n B dX5_removeAt_12 (i := 0) rfl rfl ?_
    refine zs_iload_n B dX5_removeAt_13 (i := 2) rfl rfl ?_
    refine zs_iconst (v := 0) B dX5_removeAt_14 (by decide) ?_
    refine zs_aload_n B dX5_removeAt_15 (i := 0) rfl rfl ?_
    refine zs_get B fX5_removeAt_57 rfl rfl dX5_removeAt_16 ?_
    refine zs_eq (wl' := zm_W 0 (a, zm_th v 0)) (st' := [.int (nI U.1.1.length), .int 0, .int q, .ref 0]) rfl rfl (by rw [← hv]; rfl) rfl ?_
    refine zs_iconst (v := 1) B dX5_removeAt_19 (by decide) ?_
    refine zs_isub B dX5_removeAt_20 ?_
    refine zs_callS (n := 3) [] B (zm_in hl D dA q 0 (nI U.1.1.length - 1)) gX5_removeAt_X5_in rfl ⟨by decide, by decide, by decide +kernel⟩ rfl (by rfl) rfl (by rfl) ⟨(by exact Nat.le_of_ble_eq_true rfl), (by exact Nat.le_of_ble_eq_true rfl)⟩ (by exact Nat.le_of_ble_eq_true rfl) ⟨(by exact Nat.le_of_ble_eq_true rfl), (by exact Nat.le_of_ble_eq_true rfl)⟩ dX5_removeAt_21 (by rintro v w ⟨rfl, rfl⟩; rfl) (fun _ _ h => h.elim) (fun _ _ h => h.elim) ?_
    rintro r w ⟨rfl, rfl⟩
    refine zs_eq (wl' := zm_W 0 (a, zm_th v 0)) (st' := [.int (zf_b (decide (0 ≤ q ∧ q ≤ nI U.1.1.length - 1))), .ref 0]) rfl rfl rfl rfl ?_
    refine zs_iconst (v := 2) B dX5_removeAt_24 (by decide) ?_
    refine zs_callV0 (n := 2) B (zm_no hl D dA a (zm_th v 0) (decide (0 ≤ q ∧ q ≤ nI U.1.1.length - 1)) 2) gX5_removeAt_X5_no rfl ⟨rfl, by decide, by decide, by decide +kernel⟩ rfl rfl rfl (by rfl) ⟨(by exact Nat.le_of_ble_eq_true rfl), (by exact Nat.le_of_ble_eq_true rfl)⟩ (by exact Nat.le_of_ble_eq_true rfl) ⟨(by exact Nat.le_of_ble_eq_true rfl), (by exact Nat.le_of_ble_eq_true rfl)⟩ dX5_removeAt_25 (by rintro v w ⟨rfl, rfl⟩; rfl) (fun _ _ h => h.elim) (fun _ _ h => h.elim) ?_
    rintro r w ⟨rfl, rfl⟩
    by_cases hq : 0 ≤ q ∧ q ≤ nI U.1.1.length - 1
    · rw [decide_eq_true hq]
      have hq2 := (zm_ixle h12 q).mp hq
      refine zs_if_eq (tgt := 33) B dX5_removeAt_28 (by decide) (fun _ => ?_) (fun h => absurd rfl h)
      obtain ⟨j, hj⟩ := Option.isSome_iff_exists.mp hq2
      rcases zf_ix_cases q (n := U.1.1.length) (by omega) with ⟨-, h⟩ | ⟨-, -, h⟩ | ⟨j', hj', hqj, hix⟩
      · rw [h] at hj; cases hj
      · rw [h] at hj; cases hj
      · subst hqj
        have hrl := zp_row_len hJ o
        obtain ⟨q0, hq0⟩ : ∃ q0, (zp_row U.1 o)[j']? = some q0 := ⟨_, List.getElem?_eq_getElem (by rw [hrl]; exact hj')⟩
        have hm0 := zm_rowmem hJ o hq0
        refine zs_aload_n B dX5_removeAt_33 (i := 0) rfl rfl ?_
        refine zs_callV0 (n := 0) B (zm_changes hl D dA (a, zm_th (zm_th v 0) 0) U 0 (hR.th2 0 0) hI) gX5_removeAt_X5_changes rfl ⟨rfl, by decide, by decide, by decide +kernel⟩ rfl rfl rfl (by rfl) ⟨(by exact Nat.le_of_ble_eq_true rfl), (by exact Nat.le_of_ble_eq_true rfl)⟩ (by exact Nat.le_of_ble_eq_true rfl) ⟨(by exact Nat.le_of_ble_eq_true rfl), (by exact Nat.le_of_ble_eq_true rfl)⟩ dX5_removeAt_34 (by rintro v w ⟨rfl, x9, h9, rfl⟩; rfl) (fun _ _ h => h.elim) (fun _ _ h => h.elim) ?_
        rintro r w ⟨rfl, ⟨a1, v1⟩, hR1, rfl⟩
        refine zs_aload_n B dX5_removeAt_37 (i := 0) rfl rfl ?_
        refine zs_iload_n B dX5_removeAt_38 (i := 1) rfl rfl ?_
        refine zs_callV0 (n := 1) B (zm_rowM hl D dA (a1, v1) o) gX5_removeAt_X5_row rfl ⟨rfl, by decide, by decide, by decide +kernel⟩ rfl rfl rfl (by rfl) ⟨(by exact Nat.le_of_ble_eq_true rfl), (by exact Nat.le_of_ble_eq_true rfl)⟩ (by exact Nat.le_of_ble_eq_true rfl) ⟨(by exact Nat.le_of_ble_eq_true rfl), (by exact Nat.le_of_ble_eq_true rfl)⟩ dX5_removeAt_39 (by rintro v w ⟨rfl, rfl⟩; rfl) (fun _ _ h => h.elim) (fun _ _ h => h.elim) ?_
        rintro r w ⟨rfl, rfl⟩
        refine zs_iload_n B dX5_removeAt_42 (i := 2) rfl rfl ?_
        refine zs_mget (zm_ro o) j' (zm_roA _) (by omega) rfl B dX5_removeAt_43 ?_
        rw [show a1 (zm_ro o) j' = q0.1 from zm_rowR hR1.1 hin j' q0 hq0]
        refine zs_istore_n B dX5_removeAt_44 (i := 3) rfl (by decide) rfl ?_
        refine zs_aload_n B dX5_removeAt_45 (i := 0) rfl rfl ?_
        refine zs_iload_n B dX5_removeAt_46 (i := 3) rfl rfl ?_
        refine zs_callV0 (n := 1) B (zm_outJ hl D dA (a1, v1) (zm_chg U) 0 hR1 hJ q0.1 (List.mem_map.mpr ⟨q0, hm0, rfl⟩)) gX5_removeAt_X5_out rfl ⟨rfl, by decide, by decide, by decide +kernel⟩ rfl rfl rfl (by rfl) ⟨(by exact Nat.le_of_ble_eq_true rfl), (by exact Nat.le_of_ble_eq_true rfl)⟩ (by exact Nat.le_of_ble_eq_true rfl) ⟨(by exact Nat.le_of_ble_eq_true rfl), (by exact Nat.le_of_ble_eq_true rfl)⟩ dX5_removeAt_47 (by rintro v w ⟨rfl, x9, h9, rfl⟩; rfl) (fun _ _ h => h.elim) (fun _ _ h => h.elim) ?_
        rintro r w ⟨rfl, d2, hR2, rfl⟩
        refine zs_iload_n B dX5_removeAt_50 (i := 3) rfl rfl ?_
        refine zs_zret hA B rfl rfl (by decide) (by decide) ⟨d2, Or.inr (Or.inr ⟨hin, hq2, ?_, ?_⟩), rfl⟩ dX5_removeAt_51
        · rw [zl_key_at (by rw [hrl]; exact h12) hq0]
        · rw [zl_key_at (by rw [hrl]; exact h12) hq0]
          exact hR2
    · rw [decide_eq_false hq]
      refine zs_if_eq (tgt := 33) B dX5_removeAt_28 (by decide) (fun h => absurd h (by decide)) (fun _ => ?_)
      refine zs_iconst (v := 0) B dX5_removeAt_31 (by decide) ?_
      exact zs_zret hA B rfl rfl (by decide) (by decide) ⟨(a, zm_th (zm_th v 0) 2), Or.inr (Or.inl ⟨hin, fun p => hq ((zm_ixle h12 q).mpr p), rfl, hR.th2 0 2⟩), rfl⟩ dX5_removeAt_32
  · rw [decide_eq_false hin]
    refine zs_if_ne (tgt := 31) B dX5_removeAt_9 (by decide) (fun _ => ?_) (fun h => absurd (show zf_b (!false) = 0 from h) (by decide))
    refine zs_iconst (v := 0) B dX5_removeAt_31 (by decide) ?_
    exact zs_zret hA B rfl rfl (by decide) (by decide) ⟨(a, zm_th v 1), Or.inl ⟨hin, rfl, hR.th 1⟩, rfl⟩ dX5_removeAt_32
set_option maxHeartbeats 8000000 in
theorem zm_thin {l : Launch} (hl : l.stackTraces = false) (D : va_G) (dA : Nat → ClassId) (d : zm_D) (U : zm_U) (t : Int32) (hR : zm_R U t d) (hI : zm_I U) (o each : Int32) :
    zw_Sp l D dA yX5_thin wsX5_thin 5 0 0 [.ref 0, .int o, .int each] (zm_W 0 d)
    (fun r w => ∃ d', ((¬ ((o = 99 ∨ o = 97) ∧ 1 ≤ each.toInt ∧ each.toInt ≤ 12) ∧ r = some (.int 0) ∧ zm_R U 1 d') ∨ (∃ ee : Nat, 1 ≤ ee ∧ ee ≤ 12 ∧ each = nI ee ∧ (o = 99 ∨ o = 97) ∧ r = some (.int (nI (U.1.1.length / ee))) ∧ ((U.1.1.length < ee ∧ zm_R U 0 d') ∨ (ee ≤ U.1.1.length ∧ zm_R (zm_set1 (zm_chg U) (zp_each o ee (U.1.1.length / ee) U.1)) 0 d')))) ∧ w = zm_W 0 d') (fun _ _ => False) := by
  refine zw_start hl (by decide) rfl rfl (Nat.le_of_ble_eq_true rfl) ?_
  intro pr e s m args below meth c ad A hA B
  obtain ⟨a, v⟩ := d
  have hJ := hI.1.1
  have h12 := hJ.l12
  refine zs_aload_n B dX5_thin_0 (i := 0) rfl rfl ?_
  refine zs_iload_n B dX5_thin_1 (i := 1) rfl rfl ?_
  refine zs_callS (n := 1) [] B (zm_isOrder hl D dA o) gX5_thin_X5_isOrder rfl ⟨by decide, by decide, by decide +kernel⟩ rfl (by rfl) rfl (by rfl) ⟨(by exact Nat.le_of_ble_eq_true rfl), (by exact Nat.le_of_ble_eq_true rfl)⟩ (by exact Nat.le_of_ble_eq_true rfl) ⟨(by exact Nat.le_of_ble_eq_true rfl), (by exact Nat.le_of_ble_eq_true rfl)⟩ dX5_thin_2 (by rintro v w ⟨rfl, rfl⟩; rfl) (fun _ _ h => h.elim) (fun _ _ h => h.elim) ?_
  rintro r w ⟨rfl, rfl⟩
  refine zs_eq (wl' := zm_W 0 (a, v)) (st' := [.int (zf_b (decide (o = 99 ∨ o = 97))), .ref 0]) rfl rfl rfl rfl ?_
  by_cases hin : o = 99 ∨ o = 97
  · rw [decide_eq_true hin]
    refine zs_if_eq (tgt := 22) B dX5_thin_5 (by decide) (fun h => absurd h (by decide)) (fun _ => ?_)
    refine zs_iload_n B dX5_thin_8 (i := 2) rfl rfl ?_
    refine zs_iconst (v := 1) B dX5_thin_9 (by decide) ?_
    refine zs_bipush (v := 12) B dX5_thin_10 (by decide) ?_
    refine zs_callS (n := 3) [] B (zm_in hl D dA each 1 12) gX5_thin_X5_in rfl ⟨by decide, by decide, by decide +kernel⟩ rfl (by rfl) rfl (by rfl) ⟨(by exact Nat.le_of_ble_eq_true rfl), (by exact Nat.le_of_ble_eq_true rfl)⟩ (by exact Nat.le_of_ble_eq_true rfl) ⟨(by exact Nat.le_of_ble_eq_true rfl), (by exact Nat.le_of_ble_eq_true rfl)⟩ dX5_thin_12 (by rintro v w ⟨rfl, rfl⟩; rfl) (fun _ _ h => h.elim) (fun _ _ h => h.elim) ?_
    rintro r w ⟨rfl, rfl⟩
    refine zs_eq (wl' := zm_W 0 (a, v)) (st' := [.int (zf_b (decide (1 ≤ each ∧ each ≤ 12))), .ref 0]) rfl rfl rfl rfl ?_
    by_cases hin2 : 1 ≤ each ∧ each ≤ 12
    · rw [decide_eq_true hin2]
      refine zs_if_eq (tgt := 22) B dX5_thin_15 (by decide) (fun h => absurd h (by decide)) (fun _ => ?_)
      refine zs_iconst (v := 1) B dX5_thin_18 (by decide) ?_
      refine zs_goto (tgt := 23) B dX5_thin_19 (by decide) ?_
      refine zs_iconst (v := 1) B dX5_thin_23 (by decide) ?_
      refine zs_callV0 (n := 2) B (zm_no hl D dA a v true 1) gX5_thin_X5_no rfl ⟨rfl, by decide, by decide, by decide +kernel⟩ rfl rfl rfl (by rfl) ⟨(by exact Nat.le_of_ble_eq_true rfl), (by exact Nat.le_of_ble_eq_true rfl)⟩ (by exact Nat.le_of_ble_eq_true rfl) ⟨(by exact Nat.le_of_ble_eq_true rfl), (by exact Nat.le_of_ble_eq_true rfl)⟩ dX5_thin_24 (by rintro v w ⟨rfl, rfl⟩; rfl) (fun _ _ h => h.elim) (fun _ _ h => h.elim) ?_
      rintro r w ⟨rfl, rfl⟩
      refine zs_if_eq (tgt := 32) B dX5_thin_27 (by decide) (fun _ => ?_) (fun h => absurd rfl h)
      have hin3 := (zm_i12 each).mp hin2
      obtain ⟨ee, hee, rfl⟩ := nI_of (x := each) (by
        rw [Int32.lt_iff_toInt_lt]
        have h0 : (0 : Int32).toInt = 0 := by decide
        omega)
      rw [nI_toInt hee] at hin3
      have h1 : 1 ≤ ee := by omega
      have he : ee ≤ 12 := by omega
      have hq12 : U.1.1.length / ee ≤ 12 := Nat.le_trans (Nat.div_le_self _ _) h12
      have hqe : U.1.1.length / ee * ee ≤ U.1.1.length := Nat.div_mul_le_self _ _
      have hR0 := hR.th 0
      refine zs_aload_n B dX5_thin_32 (i := 0) rfl rfl ?_
      refine zs_get B fX5_thin_57 rfl rfl dX5_thin_33 ?_
      refine zs_eq (wl' := zm_W 0 (a, zm_th v 0)) (st' := [.int (nI U.1.1.length)]) rfl rfl (by rw [← hR0.1.1]; rfl) rfl ?_
      refine zs_iload_n B dX5_thin_36 (i := 2) rfl rfl ?_
      refine zs_idiv B dX5_thin_37 (nI_ne0 (by omega) (by omega)) ?_
      rw [pk_div (by omega) (by omega) (by omega)]
      refine zs_istore_n B dX5_thin_38 (i := 3) rfl (by decide) rfl ?_
      refine zs_iload_n B dX5_thin_39 (i := 3) rfl rfl ?_
      refine zs_if_le (tgt := 47) B dX5_thin_40 (by decide) (fun h => ?_) (fun h => ?_)
      · have hz : U.1.1.length / ee = 0 := by
          exact Nat.le_zero.mp ((nI_leI (a := U.1.1.length / ee) (b := 0) (by omega) (by omega)).mp h)
        have hlt : U.1.1.length < ee := (Nat.div_eq_zero_iff_lt h1).mp hz
        refine zs_iload_n B dX5_thin_47 (i := 3) rfl rfl ?_
        refine zs_istore B dX5_thin_48 (i := 4) (by decide) rfl ?_
        refine zs_iload B dX5_thin_50 (i := 4) rfl ?_
        refine zs_if_le (tgt := 77) B dX5_thin_52 (by decide) (fun _ => ?_) (fun h9 => absurd h h9)
        refine zs_iload_n B dX5_thin_77 (i := 3) rfl rfl ?_
        exact zs_zret hA B rfl rfl (by decide) (by decide) ⟨(a, zm_th v 0), Or.inr ⟨ee, h1, he, rfl, hin, rfl, Or.inl ⟨hlt, hR0⟩⟩, rfl⟩ dX5_thin_78
      · have hz : 0 < U.1.1.length / ee := by
          rcases Nat.eq_zero_or_pos (U.1.1.length / ee) with q | q
          · exact absurd (show nI (U.1.1.length / ee) ≤ 0 by rw [q]; decide) h
          · exact q
        have hge : ee ≤ U.1.1.length := by
          rcases Nat.lt_or_ge U.1.1.length ee with q | q
          · rw [Nat.div_eq_of_lt q] at hz
            omega
          · exact q
        refine zs_aload_n B dX5_thin_43 (i := 0) rfl rfl ?_
        refine zs_callV0 (n := 0) B (zm_changes hl D dA (a, zm_th v 0) U 0 hR0 hI) gX5_thin_X5_changes rfl ⟨rfl, by decide, by decide, by decide +kernel⟩ rfl rfl rfl (by rfl) ⟨(by exact Nat.le_of_ble_eq_true rfl), (by exact Nat.le_of_ble_eq_true rfl)⟩ (by exact Nat.le_of_ble_eq_true rfl) ⟨(by exact Nat.le_of_ble_eq_true rfl), (by exact Nat.le_of_ble_eq_true rfl)⟩ dX5_thin_44 (by rintro v w ⟨rfl, x9, h9, rfl⟩; rfl) (fun _ _ h => h.elim) (fun _ _ h => h.elim) ?_
        rintro r w ⟨rfl, d1, hR1, rfl⟩
        generalize hov : U.1.1.length / ee = ov at hq12 hqe hz ⊢
        refine zs_iload_n B dX5_thin_47 (i := 3) rfl rfl ?_
        refine zs_istore B dX5_thin_48 (i := 4) (by decide) rfl ?_
        obtain ⟨S, hS⟩ : ∃ S, S = U.1 := ⟨_, rfl⟩
        have hRS : zm_R (S, (zm_chg U).2) 0 d1 := by rw [hS]; exact hR1
        have hJS : zp_J S := by rw [hS]; exact hJ
        refine zs_eq (wl' := zm_W 0 d1) (lv' := [some (.ref 0), some (.int o), some (.int (nI ee)), some (.int (nI ov)), some (.int (nI (zz ov)))]) rfl rfl rfl rfl ?_
        have hk : zz ov * ee ≤ S.1.length := by rw [hS]; exact hqe
        have hfin : zp_each o ee (zz ov) S = zp_each o ee ov U.1 := by rw [hS]; rfl
        clear hS hR1
        have hzz : zz ov ≤ 12 := hq12
        generalize zz ov = t' at hk hfin hzz ⊢
        induction t' generalizing S d1 with
        | zero =>
          refine zs_iload B dX5_thin_50 (i := 4) rfl ?_
          refine zs_if_le (tgt := 77) B dX5_thin_52 (by decide) (fun _ => ?_) (fun h9 => absurd (by decide) h9)
          refine zs_iload_n B dX5_thin_77 (i := 3) rfl rfl ?_
          refine zs_zret hA B rfl rfl (by decide) (by decide) ⟨d1, Or.inr ⟨ee, h1, he, rfl, hin, ?_, Or.inr ⟨hge, ?_⟩⟩, rfl⟩ dX5_thin_78
          · rw [hov]
          · rw [hov, ← hfin]
            exact hRS
        | succ t' ih =>
          obtain ⟨a2, v2⟩ := d1
          have hs12 := hJS.l12
          refine zs_iload B dX5_thin_50 (i := 4) rfl ?_
          refine zs_if_le (tgt := 77) B dX5_thin_52 (by decide) (fun h9 => absurd ((nI_leI (a := t' + 1) (b := 0) (by omega) (by omega)).mp h9) (by omega)) (fun _ => ?_)
          refine zs_aload_n B dX5_thin_55 (i := 0) rfl rfl ?_
          refine zs_aload_n B dX5_thin_56 (i := 0) rfl rfl ?_
          refine zs_iload_n B dX5_thin_57 (i := 1) rfl rfl ?_
          refine zs_callV0 (n := 1) B (zm_rowM hl D dA (a2, v2) o) gX5_thin_X5_row rfl ⟨rfl, by decide, by decide, by decide +kernel⟩ rfl rfl rfl (by rfl) ⟨(by exact Nat.le_of_ble_eq_true rfl), (by exact Nat.le_of_ble_eq_true rfl)⟩ (by exact Nat.le_of_ble_eq_true rfl) ⟨(by exact Nat.le_of_ble_eq_true rfl), (by exact Nat.le_of_ble_eq_true rfl)⟩ dX5_thin_58 (by rintro v w ⟨rfl, rfl⟩; rfl) (fun _ _ h => h.elim) (fun _ _ h => h.elim) ?_
          rintro r w ⟨rfl, rfl⟩
          have hte1 : 1 ≤ (t' + 1) * ee := Nat.mul_pos (by omega) (by omega)
          have hte2 : (t' + 1) * ee = t' * ee + ee := Nat.succ_mul _ _
          have e2 : nI ((t' + 1) * ee) - 1 = nI ((t' + 1) * ee - 1) := by
            obtain ⟨z, hz⟩ : ∃ z, (t' + 1) * ee = z + 1 := ⟨(t' + 1) * ee - 1, by omega⟩
            rw [hz]
            exact nI_pred z
          have hrl := zp_row_len hJS o
          obtain ⟨q0, hq0⟩ : ∃ q0, (zp_row S o)[(t' + 1) * ee - 1]? = some q0 := ⟨_, List.getElem?_eq_getElem (by rw [hrl]; omega)⟩
          have hm0 := zm_rowmem hJS o hq0
          refine zs_iload B dX5_thin_61 (i := 4) rfl ?_
          refine zs_iload_n B dX5_thin_63 (i := 2) rfl rfl ?_
          refine zs_imul B dX5_thin_64 ?_
          refine zs_iconst (v := 1) B dX5_thin_65 (by decide) ?_
          refine zs_isub B dX5_thin_66 ?_
          rw [pk_mul, e2]
          refine zs_mget (zm_ro o) ((t' + 1) * ee - 1) (zm_roA _) (by omega) rfl B dX5_thin_67 ?_
          rw [show a2 (zm_ro o) ((t' + 1) * ee - 1) = q0.1 from zm_rowR hRS.1 hin _ q0 hq0]
          refine zs_callV0 (n := 1) B (zm_outJ hl D dA (a2, v2) (S, (zm_chg U).2) 0 hRS hJS q0.1 (List.mem_map.mpr ⟨q0, hm0, rfl⟩)) gX5_thin_X5_out rfl ⟨rfl, by decide, by decide, by decide +kernel⟩ rfl rfl rfl (by rfl) ⟨(by exact Nat.le_of_ble_eq_true rfl), (by exact Nat.le_of_ble_eq_true rfl)⟩ (by exact Nat.le_of_ble_eq_true rfl) ⟨(by exact Nat.le_of_ble_eq_true rfl), (by exact Nat.le_of_ble_eq_true rfl)⟩ dX5_thin_68 (by rintro v w ⟨rfl, x9, h9, rfl⟩; rfl) (fun _ _ h => h.elim) (fun _ _ h => h.elim) ?_
          rintro r w ⟨rfl, d3, hR3, rfl⟩
          refine zs_iinc B dX5_thin_71 (i := 4) rfl (pk_m1 t') (by decide) rfl ?_
          refine zs_goto (tgt := 50) B dX5_thin_74 (by decide) ?_
          have hlen3 := zp_take_len hJS (key := q0.1) (List.mem_map.mpr ⟨q0, hm0, rfl⟩)
          refine ih d3 (zp_take S q0.1) hR3 (hJS.take _) (by rw [hlen3]; omega) ?_ (by omega)
          rw [← hfin]
          exact congrArg (fun k => zp_each o ee t' (zp_take S k)) (zl_key_at (by rw [hrl]; exact hs12) hq0).symm
    · rw [decide_eq_false hin2]
      refine zs_if_eq (tgt := 22) B dX5_thin_15 (by decide) (fun _ => ?_) (fun h => absurd (show zf_b false = 0 from rfl) h)
      refine zs_iconst (v := 0) B dX5_thin_22 (by decide) ?_
      refine zs_iconst (v := 1) B dX5_thin_23 (by decide) ?_
      refine zs_callV0 (n := 2) B (zm_no hl D dA a v false 1) gX5_thin_X5_no rfl ⟨rfl, by decide, by decide, by decide +kernel⟩ rfl rfl rfl (by rfl) ⟨(by exact Nat.le_of_ble_eq_true rfl), (by exact Nat.le_of_ble_eq_true rfl)⟩ (by exact Nat.le_of_ble_eq_true rfl) ⟨(by exact Nat.le_of_ble_eq_true rfl), (by exact Nat.le_of_ble_eq_true rfl)⟩ dX5_thin_24 (by rintro v w ⟨rfl, rfl⟩; rfl) (fun _ _ h => h.elim) (fun _ _ h => h.elim) ?_
      rintro r w ⟨rfl, rfl⟩
      refine zs_if_eq (tgt := 32) B dX5_thin_27 (by decide) (fun h => absurd h (by decide)) (fun _ => ?_)
      refine zs_iconst (v := 0) B dX5_thin_30 (by decide) ?_
      exact zs_zret hA B rfl rfl (by decide) (by decide) ⟨(a, zm_th v 1), Or.inl ⟨fun q => hin2 ((zm_i12 each).mpr q.2), rfl, hR.th 1⟩, rfl⟩ dX5_thin_31
  · rw [decide_eq_false hin]
    refine zs_if_eq (tgt := 22) B dX5_thin_5 (by decide) (fun _ => ?_) (fun h => absurd (show zf_b false = 0 from rfl) h)
    refine zs_iconst (v := 0) B dX5_thin_22 (by decide) ?_
    refine zs_iconst (v := 1) B dX5_thin_23 (by decide) ?_
    refine zs_callV0 (n := 2) B (zm_no hl D dA a v false 1) gX5_thin_X5_no rfl ⟨rfl, by decide, by decide, by decide +kernel⟩ rfl rfl rfl (by rfl) ⟨(by exact Nat.le_of_ble_eq_true rfl), (by exact Nat.le_of_ble_eq_true rfl)⟩ (by exact Nat.le_of_ble_eq_true rfl) ⟨(by exact Nat.le_of_ble_eq_true rfl), (by exact Nat.le_of_ble_eq_true rfl)⟩ dX5_thin_24 (by rintro v w ⟨rfl, rfl⟩; rfl) (fun _ _ h => h.elim) (fun _ _ h => h.elim) ?_
    rintro r w ⟨rfl, rfl⟩
    refine zs_if_eq (tgt := 32) B dX5_thin_27 (by decide) (fun h => absurd h (by decide)) (fun _ => ?_)
    refine zs_iconst (v := 0) B dX5_thin_30 (by decide) ?_
    exact zs_zret hA B rfl rfl (by decide) (by decide) ⟨(a, zm_th v 1), Or.inl ⟨fun q => hin q.1, rfl, hR.th 1⟩, rfl⟩ dX5_thin_31
