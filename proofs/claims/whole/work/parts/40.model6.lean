/-! the model: the promises on keys -/
def zm_chg (U : zm_U) : zm_U := (U.1, (U.1 :: U.2.1).take 8, (0, U.2.2.2))
def zm_set1 (U : zm_U) (S : zp_L) : zm_U := (S, U.2)
def zm_has (U : zm_U) (key : Int32) : Prop := zl_find U.1.1 key < U.1.1.length
theorem zm_R.th {U : zm_U} {t : Int32} {a : zm_A} {v : zm_V} (h : zm_R U t (a, v)) (x : Int32) : zm_R U x (a, zm_th v x) := ⟨h.1, h.2.1, h.2.2.1, rfl⟩
theorem zm_i99 (key : Int32) : (0 ≤ key ∧ key ≤ 99) ↔ (0 ≤ key.toInt ∧ key.toInt ≤ 99) := by
  rw [Int32.le_iff_toInt_le, Int32.le_iff_toInt_le]
  exact Iff.rfl
theorem zm_i12 (key : Int32) : (1 ≤ key ∧ key ≤ 12) ↔ (1 ≤ key.toInt ∧ key.toInt ≤ 12) := by
  rw [Int32.le_iff_toInt_le, Int32.le_iff_toInt_le]
  exact Iff.rfl
theorem zl_fi_ge {L : zr_L} (hL : L.length ≤ 12) (key : Int32) : 0 ≤ zl_fi L key ↔ zl_find L key < L.length := by
  unfold zl_fi zf_i
  split
  · rename_i h
    exact ⟨fun _ => h, fun _ => Int32.not_lt.mp (nI_pos (by omega))⟩
  · rename_i h
    exact ⟨fun q => absurd q (by decide), fun q => absurd q h⟩
theorem zl_fi_in {L : zr_L} {key : Int32} (h : zl_find L key < L.length) : zl_fi L key = nI (zl_find L key) := if_pos h
theorem zm_valAt {L : zr_L} {f : Nat → Int32} (h : zm_val L f) (hL : L.length ≤ 12) {key : Int32} (hk : zl_find L key < L.length) : f (zl_find L key) = zl_val L (zl_fo L key) := by
  obtain ⟨q, h1, h2⟩ := zl_find_lt hk
  rw [h _ q h1, zl_fo_eq hL, if_pos hk]
  unfold zl_val
  rw [Option.bind_some, h1]
theorem zm_R.give {U : zm_U} {t : Int32} {a : zm_A} {v : zm_V} (h : zm_R U t (a, v)) (hJ : zp_J U.1) {key : Int32} (hk : zl_find U.1.1 key < U.1.1.length) (x : Int32) : zm_R (zp_give U.1 key x, U.2) t (va_up a 2 (upd (a 2) (zl_find U.1.1 key) x), v) := by
  have hP := h.1
  refine zm_R.up h (x := v.1) (fun k hk => va_up_ne _ _ (by omega)) ?_
  unfold zp_give
  rw [zl_give_eq hJ.l12, zl_give_eq hJ.a12]
  have hset : ∀ (L : zr_L) (f : Nat → Int32), zm_key L f → zm_key (L.set (zl_find L key) (key, x)) f := by
    intro L f hf i q hq
    rw [List.getElem?_set] at hq
    split at hq
    · rename_i e
      split at hq
      · rename_i e2
        cases hq
        obtain ⟨q, h1, h2⟩ := zl_find_lt e2
        rw [← e, hf _ q h1, h2]
      · cases hq
    · exact hf i q hq
  refine ⟨?_, ?_, ?_, ?_, hP.2.2.2.2⟩
  · show v.1 = nI (U.1.1.set _ _).length
    rw [List.length_set]
    exact hP.1
  · exact hset _ _ hP.2.1
  · show zm_val (U.1.1.set (zl_find U.1.1 key) (key, x)) (upd (a 2) (zl_find U.1.1 key) x)
    intro i q hq
    unfold upd
    rw [List.getElem?_set] at hq
    split at hq
    · rename_i e
      cases hq
      rw [if_pos e.symm]
    · rename_i e
      rw [if_neg (fun q => e q.symm)]
      exact hP.2.2.1 i q hq
  · exact hset _ _ hP.2.2.2.1
theorem zm_give_mem {S : zp_L} (hJ : zp_J S) (key x : Int32) {k : Int32} (h : k ∈ S.1.map (·.1)) : k ∈ (zp_give S key x).1.map (·.1) := by
  rw [zp_give_eq hJ]
  show k ∈ (S.1.map (fun q => if q.1 == key then (q.1, x) else q)).map (fun q => q.1)
  rw [zl_map_fst]
  exact h
set_option maxHeartbeats 8000000 in
theorem zm_put {l : Launch} (hl : l.stackTraces = false) (D : va_G) (dA : Nat → ClassId) (d : zm_D) (U : zm_U) (t : Int32) (hR : zm_R U t d) (hI : zm_I U) (key x : Int32) :
    zw_Sp l D dA yX5_put wsX5_put 5 0 0 [.ref 0, .int key, .int x] (zm_W 0 d)
    (fun r w => ∃ d', ((¬ (0 ≤ key.toInt ∧ key.toInt ≤ 99) ∧ r = some (.int 0) ∧ zm_R U 1 d') ∨ ((0 ≤ key.toInt ∧ key.toInt ≤ 99) ∧ zm_has U key ∧ r = some (.int (-1)) ∧ zm_R (zm_set1 (zm_chg U) (zp_touch (zp_give U.1 key x) key)) 0 d') ∨ ((0 ≤ key.toInt ∧ key.toInt ≤ 99) ∧ ¬ zm_has U key ∧ r = some (.int (zp_gone U.1)) ∧ zm_R (zm_set1 (zm_chg U) (zp_let U.1 key x)) 0 d')) ∧ w = zm_W 0 d') (fun _ _ => False) := by
  refine zw_start hl (by decide) rfl rfl (Nat.le_of_ble_eq_true rfl) ?_
  intro pr e s m args below meth c ad A hA B
  obtain ⟨a, v⟩ := d
  have hJ := hI.1.1
  have h12 := hJ.l12
  refine zs_aload_n B dX5_put_0 (i := 0) rfl rfl ?_
  refine zs_iload_n B dX5_put_1 (i := 1) rfl rfl ?_
  refine zs_iconst (v := 0) B dX5_put_2 (by decide) ?_
  refine zs_bipush (v := 99) B dX5_put_3 (by decide) ?_
  refine zs_callS (n := 3) [] B (zm_in hl D dA key 0 99) gX5_put_X5_in rfl ⟨by decide, by decide, by decide +kernel⟩ rfl (by rfl) rfl (by rfl) ⟨(by exact Nat.le_of_ble_eq_true rfl), (by exact Nat.le_of_ble_eq_true rfl)⟩ (by exact Nat.le_of_ble_eq_true rfl) ⟨(by exact Nat.le_of_ble_eq_true rfl), (by exact Nat.le_of_ble_eq_true rfl)⟩ dX5_put_5 (by rintro v w ⟨rfl, rfl⟩; rfl) (fun _ _ h => h.elim) (fun _ _ h => h.elim) ?_
  rintro r w ⟨rfl, rfl⟩
  refine zs_eq (wl' := zm_W 0 (a, v)) (st' := [.int (zf_b (decide (0 ≤ key ∧ key ≤ 99))), .ref 0]) rfl rfl rfl rfl ?_
  refine zs_iconst (v := 1) B dX5_put_8 (by decide) ?_
  refine zs_callV0 (n := 2) B (zm_no hl D dA a v (decide (0 ≤ key ∧ key ≤ 99)) 1) gX5_put_X5_no rfl ⟨rfl, by decide, by decide, by decide +kernel⟩ rfl rfl rfl (by rfl) ⟨(by exact Nat.le_of_ble_eq_true rfl), (by exact Nat.le_of_ble_eq_true rfl)⟩ (by exact Nat.le_of_ble_eq_true rfl) ⟨(by exact Nat.le_of_ble_eq_true rfl), (by exact Nat.le_of_ble_eq_true rfl)⟩ dX5_put_9 (by rintro v w ⟨rfl, rfl⟩; rfl) (fun _ _ h => h.elim) (fun _ _ h => h.elim) ?_
  rintro r w ⟨rfl, rfl⟩
  by_cases hin : 0 ≤ key ∧ key ≤ 99
  · rw [decide_eq_true hin]
    refine zs_if_eq (tgt := 17) B dX5_put_12 (by decide) (fun _ => ?_) (fun h => absurd rfl h)
    refine zs_aload_n B dX5_put_17 (i := 0) rfl rfl ?_
    refine zs_callV0 (n := 0) B (zm_changes hl D dA (a, zm_th v 0) U 0 (hR.th 0) hI) gX5_put_X5_changes rfl ⟨rfl, by decide, by decide, by decide +kernel⟩ rfl rfl rfl (by rfl) ⟨(by exact Nat.le_of_ble_eq_true rfl), (by exact Nat.le_of_ble_eq_true rfl)⟩ (by exact Nat.le_of_ble_eq_true rfl) ⟨(by exact Nat.le_of_ble_eq_true rfl), (by exact Nat.le_of_ble_eq_true rfl)⟩ dX5_put_18 (by rintro v w ⟨rfl, x9, h9, rfl⟩; rfl) (fun _ _ h => h.elim) (fun _ _ h => h.elim) ?_
    rintro r w ⟨rfl, ⟨a1, v1⟩, hR1, rfl⟩
    refine zs_aload_n B dX5_put_21 (i := 0) rfl rfl ?_
    refine zs_aload_n B dX5_put_22 (i := 0) rfl rfl ?_
    refine zs_get B fX5_put_9 rfl rfl dX5_put_23 ?_
    refine zs_iload_n B dX5_put_26 (i := 1) rfl rfl ?_
    refine zs_callV0 (n := 2) B (zm_place hl D dA a1 v1 1 zm_a1 U.1.1 hR1.1.2.1 hR1.1.1 (by omega) key) gX5_put_X5_place rfl ⟨rfl, by decide, by decide, by decide +kernel⟩ rfl rfl rfl (by rfl) ⟨(by exact Nat.le_of_ble_eq_true rfl), (by exact Nat.le_of_ble_eq_true rfl)⟩ (by exact Nat.le_of_ble_eq_true rfl) ⟨(by exact Nat.le_of_ble_eq_true rfl), (by exact Nat.le_of_ble_eq_true rfl)⟩ dX5_put_27 (by rintro v w ⟨rfl, rfl⟩; rfl) (fun _ _ h => h.elim) (fun _ _ h => h.elim) ?_
    rintro r w ⟨rfl, rfl⟩
    refine zs_istore_n B dX5_put_30 (i := 3) rfl (by decide) rfl ?_
    refine zs_iload_n B dX5_put_31 (i := 3) rfl rfl ?_
    refine zs_if_ge (tgt := 42) B dX5_put_32 (by decide) (fun h => ?_) (fun h => ?_)
    · have hh := (zl_fi_ge h12 key).mp h
      refine zs_aload_n B dX5_put_42 (i := 0) rfl rfl ?_
      refine zs_get B fX5_put_13 rfl rfl dX5_put_43 ?_
      refine zs_iload_n B dX5_put_46 (i := 3) rfl rfl ?_
      refine zs_iload_n B dX5_put_47 (i := 2) rfl rfl ?_
      refine zs_mset 2 (zl_find U.1.1 key) zm_a2 (by omega) (zl_fi_in hh) B dX5_put_48 ?_
      refine zs_aload_n B dX5_put_49 (i := 0) rfl rfl ?_
      refine zs_iload_n B dX5_put_50 (i := 1) rfl rfl ?_
      refine zs_callV0 (n := 1) B (zm_touched hl D dA _ (zp_give U.1 key x, (zm_chg U).2) 0 (zm_R.give hR1 hJ hh x) (hI.1.give key x).1 key (zm_give_mem hJ key x (zl_find_mem.mp hh))) gX5_put_X5_touched rfl ⟨rfl, by decide, by decide, by decide +kernel⟩ rfl rfl rfl (by rfl) ⟨(by exact Nat.le_of_ble_eq_true rfl), (by exact Nat.le_of_ble_eq_true rfl)⟩ (by exact Nat.le_of_ble_eq_true rfl) ⟨(by exact Nat.le_of_ble_eq_true rfl), (by exact Nat.le_of_ble_eq_true rfl)⟩ dX5_put_51 (by rintro v w ⟨rfl, x9, h9, rfl⟩; rfl) (fun _ _ h => h.elim) (fun _ _ h => h.elim) ?_
      rintro r w ⟨rfl, d2, hR2, rfl⟩
      refine zs_iconst (v := (-1)) B dX5_put_54 (by decide) ?_
      exact zs_zret hA B rfl rfl (by decide) (by decide) ⟨d2, Or.inr (Or.inl ⟨(zm_i99 key).mp hin, hh, rfl, hR2⟩), rfl⟩ dX5_put_55
    · have hh : ¬ zl_find U.1.1 key < U.1.1.length := fun q => h ((zl_fi_ge h12 key).mpr q)
      refine zs_aload_n B dX5_put_35 (i := 0) rfl rfl ?_
      refine zs_iload_n B dX5_put_36 (i := 1) rfl rfl ?_
      refine zs_iload_n B dX5_put_37 (i := 2) rfl rfl ?_
      refine zs_callV0 (n := 2) B (zm_comesIn hl D dA (a1, v1) (zm_chg U) 0 hR1 hI.1 key x (fun q => hh (zl_find_mem.mpr q))) gX5_put_X5_comesIn rfl ⟨rfl, by decide, by decide, by decide +kernel⟩ rfl rfl rfl (by rfl) ⟨(by exact Nat.le_of_ble_eq_true rfl), (by exact Nat.le_of_ble_eq_true rfl)⟩ (by exact Nat.le_of_ble_eq_true rfl) ⟨(by exact Nat.le_of_ble_eq_true rfl), (by exact Nat.le_of_ble_eq_true rfl)⟩ dX5_put_38 (by rintro v w ⟨rfl, x9, h9, rfl⟩; rfl) (fun _ _ h => h.elim) (fun _ _ h => h.elim) ?_
      rintro r w ⟨rfl, d2, hR2, rfl⟩
      exact zs_zret hA B rfl rfl (by decide) (by decide) ⟨d2, Or.inr (Or.inr ⟨(zm_i99 key).mp hin, hh, rfl, hR2⟩), rfl⟩ dX5_put_41
  · rw [decide_eq_false hin]
    refine zs_if_eq (tgt := 17) B dX5_put_12 (by decide) (fun h => absurd h (by decide)) (fun _ => ?_)
    refine zs_iconst (v := 0) B dX5_put_15 (by decide) ?_
    exact zs_zret hA B rfl rfl (by decide) (by decide) ⟨(a, zm_th v 1), Or.inl ⟨fun q => hin ((zm_i99 key).mpr q), rfl, hR.th 1⟩, rfl⟩ dX5_put_16
set_option maxHeartbeats 8000000 in
theorem zm_putIfAbsent {l : Launch} (hl : l.stackTraces = false) (D : va_G) (dA : Nat → ClassId) (d : zm_D) (U : zm_U) (t : Int32) (hR : zm_R U t d) (hI : zm_I U) (key x : Int32) :
    zw_Sp l D dA yX5_putIfAbsent wsX5_putIfAbsent 5 0 0 [.ref 0, .int key, .int x] (zm_W 0 d)
    (fun r w => ∃ d', ((¬ (0 ≤ key.toInt ∧ key.toInt ≤ 99) ∧ r = some (.int 0) ∧ zm_R U 1 d') ∨ ((0 ≤ key.toInt ∧ key.toInt ≤ 99) ∧ zm_has U key ∧ r = some (.int 0) ∧ zm_R (zm_set1 (zm_chg U) (zp_touch U.1 key)) 0 d') ∨ ((0 ≤ key.toInt ∧ key.toInt ≤ 99) ∧ ¬ zm_has U key ∧ r = some (.int 1) ∧ zm_R (zm_set1 (zm_chg U) (zp_let U.1 key x)) 0 d')) ∧ w = zm_W 0 d') (fun _ _ => False) := by
  refine zw_start hl (by decide) rfl rfl (Nat.le_of_ble_eq_true rfl) ?_
  intro pr e s m args below meth c ad A hA B
  obtain ⟨a, v⟩ := d
  have hJ := hI.1.1
  have h12 := hJ.l12
  refine zs_aload_n B dX5_putIfAbsent_0 (i := 0) rfl rfl ?_
  refine zs_iload_n B dX5_putIfAbsent_1 (i := 1) rfl rfl ?_
  refine zs_iconst (v := 0) B dX5_putIfAbsent_2 (by decide) ?_
  refine zs_bipush (v := 99) B dX5_putIfAbsent_3 (by decide) ?_
  refine zs_callS (n := 3) [] B (zm_in hl D dA key 0 99) gX5_putIfAbsent_X5_in rfl ⟨by decide, by decide, by decide +kernel⟩ rfl (by rfl) rfl (by rfl) ⟨(by exact Nat.le_of_ble_eq_true rfl), (by exact Nat.le_of_ble_eq_true rfl)⟩ (by exact Nat.le_of_ble_eq_true rfl) ⟨(by exact Nat.le_of_ble_eq_true rfl), (by exact Nat.le_of_ble_eq_true rfl)⟩ dX5_putIfAbsent_5 (by rintro v w ⟨rfl, rfl⟩; rfl) (fun _ _ h => h.elim) (fun _ _ h => h.elim) ?_
  rintro r w ⟨rfl, rfl⟩
  refine zs_eq (wl' := zm_W 0 (a, v)) (st' := [.int (zf_b (decide (0 ≤ key ∧ key ≤ 99))), .ref 0]) rfl rfl rfl rfl ?_
  refine zs_iconst (v := 1) B dX5_putIfAbsent_8 (by decide) ?_
  refine zs_callV0 (n := 2) B (zm_no hl D dA a v (decide (0 ≤ key ∧ key ≤ 99)) 1) gX5_putIfAbsent_X5_no rfl ⟨rfl, by decide, by decide, by decide +kernel⟩ rfl rfl rfl (by rfl) ⟨(by exact Nat.le_of_ble_eq_true rfl), (by exact Nat.le_of_ble_eq_true rfl)⟩ (by exact Nat.le_of_ble_eq_true rfl) ⟨(by exact Nat.le_of_ble_eq_true rfl), (by exact Nat.le_of_ble_eq_true rfl)⟩ dX5_putIfAbsent_9 (by rintro v w ⟨rfl, rfl⟩; rfl) (fun _ _ h => h.elim) (fun _ _ h => h.elim) ?_
  rintro r w ⟨rfl, rfl⟩
  by_cases hin : 0 ≤ key ∧ key ≤ 99
  · rw [decide_eq_true hin]
    refine zs_if_eq (tgt := 17) B dX5_putIfAbsent_12 (by decide) (fun _ => ?_) (fun h => absurd rfl h)
    refine zs_aload_n B dX5_putIfAbsent_17 (i := 0) rfl rfl ?_
    refine zs_callV0 (n := 0) B (zm_changes hl D dA (a, zm_th v 0) U 0 (hR.th 0) hI) gX5_putIfAbsent_X5_changes rfl ⟨rfl, by decide, by decide, by decide +kernel⟩ rfl rfl rfl (by rfl) ⟨(by exact Nat.le_of_ble_eq_true rfl), (by exact Nat.le_of_ble_eq_true rfl)⟩ (by exact Nat.le_of_ble_eq_true rfl) ⟨(by exact Nat.le_of_ble_eq_true rfl), (by exact Nat.le_of_ble_eq_true rfl)⟩ dX5_putIfAbsent_18 (by rintro v w ⟨rfl, x9, h9, rfl⟩; rfl) (fun _ _ h => h.elim) (fun _ _ h => h.elim) ?_
    rintro r w ⟨rfl, ⟨a1, v1⟩, hR1, rfl⟩
    refine zs_aload_n B dX5_putIfAbsent_21 (i := 0) rfl rfl ?_
    refine zs_aload_n B dX5_putIfAbsent_22 (i := 0) rfl rfl ?_
    refine zs_get B fX5_putIfAbsent_9 rfl rfl dX5_putIfAbsent_23 ?_
    refine zs_iload_n B dX5_putIfAbsent_26 (i := 1) rfl rfl ?_
    refine zs_callV0 (n := 2) B (zm_place hl D dA a1 v1 1 zm_a1 U.1.1 hR1.1.2.1 hR1.1.1 (by omega) key) gX5_putIfAbsent_X5_place rfl ⟨rfl, by decide, by decide, by decide +kernel⟩ rfl rfl rfl (by rfl) ⟨(by exact Nat.le_of_ble_eq_true rfl), (by exact Nat.le_of_ble_eq_true rfl)⟩ (by exact Nat.le_of_ble_eq_true rfl) ⟨(by exact Nat.le_of_ble_eq_true rfl), (by exact Nat.le_of_ble_eq_true rfl)⟩ dX5_putIfAbsent_27 (by rintro v w ⟨rfl, rfl⟩; rfl) (fun _ _ h => h.elim) (fun _ _ h => h.elim) ?_
    rintro r w ⟨rfl, rfl⟩
    refine zs_if_lt (tgt := 40) B dX5_putIfAbsent_30 (by decide) (fun h => ?_) (fun h => ?_)
    · have hh : ¬ zl_find U.1.1 key < U.1.1.length := fun q => Int32.not_lt.mpr ((zl_fi_ge h12 key).mpr q) h
      refine zs_aload_n B dX5_putIfAbsent_40 (i := 0) rfl rfl ?_
      refine zs_iload_n B dX5_putIfAbsent_41 (i := 1) rfl rfl ?_
      refine zs_iload_n B dX5_putIfAbsent_42 (i := 2) rfl rfl ?_
      refine zs_callV0 (n := 2) B (zm_comesIn hl D dA (a1, v1) (zm_chg U) 0 hR1 hI.1 key x (fun q => hh (zl_find_mem.mpr q))) gX5_putIfAbsent_X5_comesIn rfl ⟨rfl, by decide, by decide, by decide +kernel⟩ rfl rfl rfl (by rfl) ⟨(by exact Nat.le_of_ble_eq_true rfl), (by exact Nat.le_of_ble_eq_true rfl)⟩ (by exact Nat.le_of_ble_eq_true rfl) ⟨(by exact Nat.le_of_ble_eq_true rfl), (by exact Nat.le_of_ble_eq_true rfl)⟩ dX5_putIfAbsent_43 (by rintro v w ⟨rfl, x9, h9, rfl⟩; rfl) (fun _ _ h => h.elim) (fun _ _ h => h.elim) ?_
      rintro r w ⟨rfl, d2, hR2, rfl⟩
      refine zs_pop B dX5_putIfAbsent_46 rfl ?_
      refine zs_iconst (v := 1) B dX5_putIfAbsent_47 (by decide) ?_
      exact zs_zret hA B rfl rfl (by decide) (by decide) ⟨d2, Or.inr (Or.inr ⟨(zm_i99 key).mp hin, hh, rfl, hR2⟩), rfl⟩ dX5_putIfAbsent_48
    · have hh := (zl_fi_ge h12 key).mp (Int32.not_lt.mp h)
      refine zs_aload_n B dX5_putIfAbsent_33 (i := 0) rfl rfl ?_
      refine zs_iload_n B dX5_putIfAbsent_34 (i := 1) rfl rfl ?_
      refine zs_callV0 (n := 1) B (zm_touched hl D dA (a1, v1) (zm_chg U) 0 hR1 hJ key (zl_find_mem.mp hh)) gX5_putIfAbsent_X5_touched rfl ⟨rfl, by decide, by decide, by decide +kernel⟩ rfl rfl rfl (by rfl) ⟨(by exact Nat.le_of_ble_eq_true rfl), (by exact Nat.le_of_ble_eq_true rfl)⟩ (by exact Nat.le_of_ble_eq_true rfl) ⟨(by exact Nat.le_of_ble_eq_true rfl), (by exact Nat.le_of_ble_eq_true rfl)⟩ dX5_putIfAbsent_35 (by rintro v w ⟨rfl, x9, h9, rfl⟩; rfl) (fun _ _ h => h.elim) (fun _ _ h => h.elim) ?_
      rintro r w ⟨rfl, d2, hR2, rfl⟩
      refine zs_iconst (v := 0) B dX5_putIfAbsent_38 (by decide) ?_
      exact zs_zret hA B rfl rfl (by decide) (by decide) ⟨d2, Or.inr (Or.inl ⟨(zm_i99 key).mp hin, hh, rfl, hR2⟩), rfl⟩ dX5_putIfAbsent_39
  · rw [decide_eq_false hin]
    refine zs_if_eq (tgt := 17) B dX5_putIfAbsent_12 (by decide) (fun h => absurd h (by decide)) (fun _ => ?_)
    refine zs_iconst (v := 0) B dX5_putIfAbsent_15 (by decide) ?_
    exact zs_zret hA B rfl rfl (by decide) (by decide) ⟨(a, zm_th v 1), Or.inl ⟨fun q => hin ((zm_i99 key).mpr q), rfl, hR.th 1⟩, rfl⟩ dX5_putIfAbsent_16
def zm_val1 (U : zm_U) (key : Int32) : Int32 := zl_val U.1.1 (zl_fo U.1.1 key)
set_option maxHeartbeats 8000000 in
theorem zm_get1 {l : Launch} (hl : l.stackTraces = false) (D : va_G) (dA : Nat → ClassId) (d : zm_D) (U : zm_U) (t : Int32) (hR : zm_R U t d) (hI : zm_I U) (key : Int32) :
    zw_Sp l D dA yX5_get wsX5_get 5 0 0 [.ref 0, .int key] (zm_W 0 d)
    (fun r w => ∃ d', ((¬ zm_has U key ∧ r = some (.int 0) ∧ zm_R U 1 d') ∨ (zm_has U key ∧ r = some (.int (zm_val1 U key)) ∧ zm_R (zm_set1 (zm_chg U) (zp_touch U.1 key)) 0 d')) ∧ w = zm_W 0 d') (fun _ _ => False) := by
  refine zw_start hl (by decide) rfl rfl (Nat.le_of_ble_eq_true rfl) ?_
  intro pr e s m args below meth c ad A hA B
  obtain ⟨a, v⟩ := d
  have hJ := hI.1.1
  have h12 := hJ.l12
  refine zs_aload_n B dX5_get_0 (i := 0) rfl rfl ?_
  refine zs_aload_n B dX5_get_1 (i := 0) rfl rfl ?_
  refine zs_get B fX5_get_9 rfl rfl dX5_get_2 ?_
  refine zs_iload_n B dX5_get_5 (i := 1) rfl rfl ?_
  refine zs_callV0 (n := 2) B (zm_place hl D dA a v 1 zm_a1 U.1.1 hR.1.2.1 hR.1.1 (by omega) key) gX5_get_X5_place rfl ⟨rfl, by decide, by decide, by decide +kernel⟩ rfl rfl rfl (by rfl) ⟨(by exact Nat.le_of_ble_eq_true rfl), (by exact Nat.le_of_ble_eq_true rfl)⟩ (by exact Nat.le_of_ble_eq_true rfl) ⟨(by exact Nat.le_of_ble_eq_true rfl), (by exact Nat.le_of_ble_eq_true rfl)⟩ dX5_get_6 (by rintro v w ⟨rfl, rfl⟩; rfl) (fun _ _ h => h.elim) (fun _ _ h => h.elim) ?_
  rintro r w ⟨rfl, rfl⟩
  refine zs_istore_n B dX5_get_9 (i := 2) rfl (by decide) rfl ?_
  refine zs_aload_n B dX5_get_10 (i := 0) rfl rfl ?_
  refine zs_iload_n B dX5_get_11 (i := 2) rfl rfl ?_
  refine zs_if_lt (tgt := 19) B dX5_get_12 (by decide) (fun h => ?_) (fun h => ?_)
  · have hh : ¬ zl_find U.1.1 key < U.1.1.length := fun q => Int32.not_lt.mpr ((zl_fi_ge h12 key).mpr q) h
    refine zs_iconst (v := 0) B dX5_get_19 (by decide) ?_
    refine zs_iconst (v := 1) B dX5_get_20 (by decide) ?_
    refine zs_callV0 (n := 2) B (zm_no hl D dA a v false 1) gX5_get_X5_no rfl ⟨rfl, by decide, by decide, by decide +kernel⟩ rfl rfl rfl (by rfl) ⟨(by exact Nat.le_of_ble_eq_true rfl), (by exact Nat.le_of_ble_eq_true rfl)⟩ (by exact Nat.le_of_ble_eq_true rfl) ⟨(by exact Nat.le_of_ble_eq_true rfl), (by exact Nat.le_of_ble_eq_true rfl)⟩ dX5_get_21 (by rintro v w ⟨rfl, rfl⟩; rfl) (fun _ _ h => h.elim) (fun _ _ h => h.elim) ?_
    rintro r w ⟨rfl, rfl⟩
    refine zs_if_eq (tgt := 29) B dX5_get_24 (by decide) (fun h => absurd h (by decide)) (fun _ => ?_)
    refine zs_iconst (v := 0) B dX5_get_27 (by decide) ?_
    exact zs_zret hA B rfl rfl (by decide) (by decide) ⟨(a, zm_th v 1), Or.inl ⟨hh, rfl, hR.th 1⟩, rfl⟩ dX5_get_28
  · have hh := (zl_fi_ge h12 key).mp (Int32.not_lt.mp h)
    refine zs_iconst (v := 1) B dX5_get_15 (by decide) ?_
    refine zs_goto (tgt := 20) B dX5_get_16 (by decide) ?_
    refine zs_iconst (v := 1) B dX5_get_20 (by decide) ?_
    refine zs_callV0 (n := 2) B (zm_no hl D dA a v true 1) gX5_get_X5_no rfl ⟨rfl, by decide, by decide, by decide +kernel⟩ rfl rfl rfl (by rfl) ⟨(by exact Nat.le_of_ble_eq_true rfl), (by exact Nat.le_of_ble_eq_true rfl)⟩ (by exact Nat.le_of_ble_eq_true rfl) ⟨(by exact Nat.le_of_ble_eq_true rfl), (by exact Nat.le_of_ble_eq_true rfl)⟩ dX5_get_21 (by rintro v w ⟨rfl, rfl⟩; rfl) (fun _ _ h => h.elim) (fun _ _ h => h.elim) ?_
    rintro r w ⟨rfl, rfl⟩
    refine zs_if_eq (tgt := 29) B dX5_get_24 (by decide) (fun _ => ?_) (fun h => absurd rfl h)
    refine zs_aload_n B dX5_get_29 (i := 0) rfl rfl ?_
    refine zs_callV0 (n := 0) B (zm_changes hl D dA (a, zm_th v 0) U 0 (hR.th 0) hI) gX5_get_X5_changes rfl ⟨rfl, by decide, by decide, by decide +kernel⟩ rfl rfl rfl (by rfl) ⟨(by exact Nat.le_of_ble_eq_true rfl), (by exact Nat.le_of_ble_eq_true rfl)⟩ (by exact Nat.le_of_ble_eq_true rfl) ⟨(by exact Nat.le_of_ble_eq_true rfl), (by exact Nat.le_of_ble_eq_true rfl)⟩ dX5_get_30 (by rintro v w ⟨rfl, x9, h9, rfl⟩; rfl) (fun _ _ h => h.elim) (fun _ _ h => h.elim) ?_
    rintro r w ⟨rfl, d1, hR1, rfl⟩
    refine zs_aload_n B dX5_get_33 (i := 0) rfl rfl ?_
    refine zs_iload_n B dX5_get_34 (i := 1) rfl rfl ?_
    refine zs_callV0 (n := 1) B (zm_touched hl D dA d1 (zm_chg U) 0 hR1 hJ key (zl_find_mem.mp hh)) gX5_get_X5_touched rfl ⟨rfl, by decide, by decide, by decide +kernel⟩ rfl rfl rfl (by rfl) ⟨(by exact Nat.le_of_ble_eq_true rfl), (by exact Nat.le_of_ble_eq_true rfl)⟩ (by exact Nat.le_of_ble_eq_true rfl) ⟨(by exact Nat.le_of_ble_eq_true rfl), (by exact Nat.le_of_ble_eq_true rfl)⟩ dX5_get_35 (by rintro v w ⟨rfl, x9, h9, rfl⟩; rfl) (fun _ _ h => h.elim) (fun _ _ h => h.elim) ?_
    rintro r w ⟨rfl, ⟨a2, v2⟩, hR2, rfl⟩
    refine zs_aload_n B dX5_get_38 (i := 0) rfl rfl ?_
    refine zs_get B fX5_get_13 rfl rfl dX5_get_39 ?_
    refine zs_iload_n B dX5_get_42 (i := 2) rfl rfl ?_
    refine zs_mget 2 (zl_find U.1.1 key) zm_a2 (by omega) (zl_fi_in hh) B dX5_get_43 ?_
    rw [show a2 2 (zl_find U.1.1 key) = zm_val1 U key from zm_valAt (L := U.1.1) hR2.1.2.2.1 h12 hh]
    exact zs_zret hA B rfl rfl (by decide) (by decide) ⟨(a2, v2), Or.inr ⟨hh, rfl, hR2⟩, rfl⟩ dX5_get_44
set_option maxHeartbeats 8000000 in
theorem zm_getOr {l : Launch} (hl : l.stackTraces = false) (D : va_G) (dA : Nat → ClassId) (d : zm_D) (U : zm_U) (t : Int32) (hR : zm_R U t d) (hI : zm_I U) (key x : Int32) :
    zw_Sp l D dA yX5_getOr wsX5_getOr 5 0 0 [.ref 0, .int key, .int x] (zm_W 0 d)
    (fun r w => ∃ d', ((¬ zm_has U key ∧ r = some (.int x) ∧ zm_R U 0 d') ∨ (zm_has U key ∧ r = some (.int (zm_val1 U key)) ∧ zm_R (zm_set1 (zm_chg U) (zp_touch U.1 key)) 0 d')) ∧ w = zm_W 0 d') (fun _ _ => False) := by
  refine zw_start hl (by decide) rfl rfl (Nat.le_of_ble_eq_true rfl) ?_
  intro pr e s m args below meth c ad A hA B
  obtain ⟨a, v⟩ := d
  have hJ := hI.1.1
  have h12 := hJ.l12
  have hR0 := hR.th 0
  refine zs_aload_n B dX5_getOr_0 (i := 0) rfl rfl ?_
  refine zs_iconst (v := 0) B dX5_getOr_1 (by decide) ?_
  refine zs_put B (wX5_getOr_54 rfl rfl) rfl (Nat.le_of_ble_eq_true rfl) dX5_getOr_2 ?_
  refine zs_eq (wl' := zm_W 0 (a, zm_th v 0)) rfl rfl rfl rfl ?_
  refine zs_aload_n B dX5_getOr_5 (i := 0) rfl rfl ?_
  refine zs_aload_n B dX5_getOr_6 (i := 0) rfl rfl ?_
  refine zs_get B fX5_getOr_9 rfl rfl dX5_getOr_7 ?_
  refine zs_iload_n B dX5_getOr_10 (i := 1) rfl rfl ?_
  refine zs_callV0 (n := 2) B (zm_place hl D dA a (zm_th v 0) 1 zm_a1 U.1.1 hR0.1.2.1 hR0.1.1 (by omega) key) gX5_getOr_X5_place rfl ⟨rfl, by decide, by decide, by decide +kernel⟩ rfl rfl rfl (by rfl) ⟨(by exact Nat.le_of_ble_eq_true rfl), (by exact Nat.le_of_ble_eq_true rfl)⟩ (by exact Nat.le_of_ble_eq_true rfl) ⟨(by exact Nat.le_of_ble_eq_true rfl), (by exact Nat.le_of_ble_eq_true rfl)⟩ dX5_getOr_11 (by rintro v w ⟨rfl, rfl⟩; rfl) (fun _ _ h => h.elim) (fun _ _ h => h.elim) ?_
  rintro r w ⟨rfl, rfl⟩
  refine zs_istore_n B dX5_getOr_14 (i := 3) rfl (by decide) rfl ?_
  refine zs_iload_n B dX5_getOr_15 (i := 3) rfl rfl ?_
  refine zs_if_ge (tgt := 21) B dX5_getOr_16 (by decide) (fun h => ?_) (fun h => ?_)
  · have hh := (zl_fi_ge h12 key).mp h
    refine zs_aload_n B dX5_getOr_21 (i := 0) rfl rfl ?_
    refine zs_callV0 (n := 0) B (zm_changes hl D dA (a, zm_th v 0) U 0 hR0 hI) gX5_getOr_X5_changes rfl ⟨rfl, by decide, by decide, by decide +kernel⟩ rfl rfl rfl (by rfl) ⟨(by exact Nat.le_of_ble_eq_true rfl), (by exact Nat.le_of_ble_eq_true rfl)⟩ (by exact Nat.le_of_ble_eq_true rfl) ⟨(by exact Nat.le_of_ble_eq_true rfl), (by exact Nat.le_of_ble_eq_true rfl)⟩ dX5_getOr_22 (by rintro v w ⟨rfl, x9, h9, rfl⟩; rfl) (fun _ _ h => h.elim) (fun _ _ h => h.elim) ?_
    rintro r w ⟨rfl, d1, hR1, rfl⟩
    refine zs_aload_n B dX5_getOr_25 (i := 0) rfl rfl ?_
    refine zs_iload_n B dX5_getOr_26 (i := 1) rfl rfl ?_
    refine zs_callV0 (n := 1) B (zm_touched hl D dA d1 (zm_chg U) 0 hR1 hJ key (zl_find_mem.mp hh)) gX5_getOr_X5_touched rfl ⟨rfl, by decide, by decide, by decide +kernel⟩ rfl rfl rfl (by rfl) ⟨(by exact Nat.le_of_ble_eq_true rfl), (by exact Nat.le_of_ble_eq_true rfl)⟩ (by exact Nat.le_of_ble_eq_true rfl) ⟨(by exact Nat.le_of_ble_eq_true rfl), (by exact Nat.le_of_ble_eq_true rfl)⟩ dX5_getOr_27 (by rintro v w ⟨rfl, x9, h9, rfl⟩; rfl) (fun _ _ h => h.elim) (fun _ _ h => h.elim) ?_
    rintro r w ⟨rfl, ⟨a2, v2⟩, hR2, rfl⟩
    refine zs_aload_n B dX5_getOr_30 (i := 0) rfl rfl ?_
    refine zs_get B fX5_getOr_13 rfl rfl dX5_getOr_31 ?_
    refine zs_iload_n B dX5_getOr_34 (i := 3) rfl rfl ?_
    refine zs_mget 2 (zl_find U.1.1 key) zm_a2 (by omega) (zl_fi_in hh) B dX5_getOr_35 ?_
    rw [show a2 2 (zl_find U.1.1 key) = zm_val1 U key from zm_valAt (L := U.1.1) hR2.1.2.2.1 h12 hh]
    exact zs_zret hA B rfl rfl (by decide) (by decide) ⟨(a2, v2), Or.inr ⟨hh, rfl, hR2⟩, rfl⟩ dX5_getOr_36
  · have hh : ¬ zl_find U.1.1 key < U.1.1.length := fun q => h ((zl_fi_ge h12 key).mpr q)
    refine zs_iload_n B dX5_getOr_19 (i := 2) rfl rfl ?_
    exact zs_zret hA B rfl rfl (by decide) (by decide) ⟨(a, zm_th v 0), Or.inl ⟨hh, rfl, hR0⟩, rfl⟩ dX5_getOr_20
set_option maxHeartbeats 8000000 in
theorem zm_replace {l : Launch} (hl : l.stackTraces = false) (D : va_G) (dA : Nat → ClassId) (d : zm_D) (U : zm_U) (t : Int32) (hR : zm_R U t d) (hI : zm_I U) (key x : Int32) :
    zw_Sp l D dA yX5_replace wsX5_replace 5 0 0 [.ref 0, .int key, .int x] (zm_W 0 d)
    (fun r w => ∃ d', ((¬ zm_has U key ∧ r = some (.int 0) ∧ zm_R U 0 d') ∨ (zm_has U key ∧ r = some (.int 1) ∧ zm_R (zm_set1 (zm_chg U) (zp_touch (zp_give U.1 key x) key)) 0 d')) ∧ w = zm_W 0 d') (fun _ _ => False) := by
  refine zw_start hl (by decide) rfl rfl (Nat.le_of_ble_eq_true rfl) ?_
  intro pr e s m args below meth c ad A hA B
  obtain ⟨a, v⟩ := d
  have hJ := hI.1.1
  have h12 := hJ.l12
  have hR0 := hR.th 0
  refine zs_aload_n B dX5_replace_0 (i := 0) rfl rfl ?_
  refine zs_iconst (v := 0) B dX5_replace_1 (by decide) ?_
  refine zs_put B (wX5_replace_54 rfl rfl) rfl (Nat.le_of_ble_eq_true rfl) dX5_replace_2 ?_
  refine zs_eq (wl' := zm_W 0 (a, zm_th v 0)) rfl rfl rfl rfl ?_
  refine zs_aload_n B dX5_replace_5 (i := 0) rfl rfl ?_
  refine zs_aload_n B dX5_replace_6 (i := 0) rfl rfl ?_
  refine zs_get B fX5_replace_9 rfl rfl dX5_replace_7 ?_
  refine zs_iload_n B dX5_replace_10 (i := 1) rfl rfl ?_
  refine zs_callV0 (n := 2) B (zm_place hl D dA a (zm_th v 0) 1 zm_a1 U.1.1 hR0.1.2.1 hR0.1.1 (by omega) key) gX5_replace_X5_place rfl ⟨rfl, by decide, by decide, by decide +kernel⟩ rfl rfl rfl (by rfl) ⟨(by exact Nat.le_of_ble_eq_true rfl), (by exact Nat.le_of_ble_eq_true rfl)⟩ (by exact Nat.le_of_ble_eq_true rfl) ⟨(by exact Nat.le_of_ble_eq_true rfl), (by exact Nat.le_of_ble_eq_true rfl)⟩ dX5_replace_11 (by rintro v w ⟨rfl, rfl⟩; rfl) (fun _ _ h => h.elim) (fun _ _ h => h.elim) ?_
  rintro r w ⟨rfl, rfl⟩
  refine zs_istore_n B dX5_replace_14 (i := 3) rfl (by decide) rfl ?_
  refine zs_iload_n B dX5_replace_15 (i := 3) rfl rfl ?_
  refine zs_if_ge (tgt := 21) B dX5_replace_16 (by decide) (fun h => ?_) (fun h => ?_)
  · have hh := (zl_fi_ge h12 key).mp h
    refine zs_aload_n B dX5_replace_21 (i := 0) rfl rfl ?_
    refine zs_callV0 (n := 0) B (zm_changes hl D dA (a, zm_th v 0) U 0 hR0 hI) gX5_replace_X5_changes rfl ⟨rfl, by decide, by decide, by decide +kernel⟩ rfl rfl rfl (by rfl) ⟨(by exact Nat.le_of_ble_eq_true rfl), (by exact Nat.le_of_ble_eq_true rfl)⟩ (by exact Nat.le_of_ble_eq_true rfl) ⟨(by exact Nat.le_of_ble_eq_true rfl), (by exact Nat.le_of_ble_eq_true rfl)⟩ dX5_replace_22 (by rintro v w ⟨rfl, x9, h9, rfl⟩; rfl) (fun _ _ h => h.elim) (fun _ _ h => h.elim) ?_
    rintro r w ⟨rfl, ⟨a1, v1⟩, hR1, rfl⟩
    refine zs_aload_n B dX5_replace_25 (i := 0) rfl rfl ?_
    refine zs_get B fX5_replace_13 rfl rfl dX5_replace_26 ?_
    refine zs_iload_n B dX5_replace_29 (i := 3) rfl rfl ?_
    refine zs_iload_n B dX5_replace_30 (i := 2) rfl rfl ?_
    refine zs_mset 2 (zl_find U.1.1 key) zm_a2 (by omega) (zl_fi_in hh) B dX5_replace_31 ?_
    refine zs_aload_n B dX5_replace_32 (i := 0) rfl rfl ?_
    refine zs_iload_n B dX5_replace_33 (i := 1) rfl rfl ?_
    refine zs_callV0 (n := 1) B (zm_touched hl D dA _ (zp_give U.1 key x, (zm_chg U).2) 0 (zm_R.give hR1 hJ hh x) (hI.1.give key x).1 key (zm_give_mem hJ key x (zl_find_mem.mp hh))) gX5_replace_X5_touched rfl ⟨rfl, by decide, by decide, by decide +kernel⟩ rfl rfl rfl (by rfl) ⟨(by exact Nat.le_of_ble_eq_true rfl), (by exact Nat.le_of_ble_eq_true rfl)⟩ (by exact Nat.le_of_ble_eq_true rfl) ⟨(by exact Nat.le_of_ble_eq_true rfl), (by exact Nat.le_of_ble_eq_true rfl)⟩ dX5_replace_34 (by rintro v w ⟨rfl, x9, h9, rfl⟩; rfl) (fun _ _ h => h.elim) (fun _ _ h => h.elim) ?_
    rintro r w ⟨rfl, d2, hR2, rfl⟩
    refine zs_iconst (v := 1) B dX5_replace_37 (by decide) ?_
    exact zs_zret hA B rfl rfl (by decide) (by decide) ⟨d2, Or.inr ⟨hh, rfl, hR2⟩, rfl⟩ dX5_replace_38
  · have hh : ¬ zl_find U.1.1 key < U.1.1.length := fun q => h ((zl_fi_ge h12 key).mpr q)
    refine zs_iconst (v := 0) B dX5_replace_19 (by decide) ?_
    exact zs_zret hA B rfl rfl (by decide) (by decide) ⟨(a, zm_th v 0), Or.inl ⟨hh, rfl, hR0⟩, rfl⟩ dX5_replace_20
set_option maxHeartbeats 8000000 in
theorem zm_replaceIf {l : Launch} (hl : l.stackTraces = false) (D : va_G) (dA : Nat → ClassId) (d : zm_D) (U : zm_U) (t : Int32) (hR : zm_R U t d) (hI : zm_I U) (key bf x : Int32) :
    zw_Sp l D dA yX5_replaceIf wsX5_replaceIf 5 0 0 [.ref 0, .int key, .int bf, .int x] (zm_W 0 d)
    (fun r w => ∃ d', ((¬ (zm_has U key ∧ zm_val1 U key = bf) ∧ r = some (.int 0) ∧ zm_R U 0 d') ∨ ((zm_has U key ∧ zm_val1 U key = bf) ∧ r = some (.int 1) ∧ zm_R (zm_set1 (zm_chg U) (zp_touch (zp_give U.1 key x) key)) 0 d')) ∧ w = zm_W 0 d') (fun _ _ => False) := by
  refine zw_start hl (by decide) rfl rfl (Nat.le_of_ble_eq_true rfl) ?_
  intro pr e s m args below meth c ad A hA B
  obtain ⟨a, v⟩ := d
  have hJ := hI.1.1
  have h12 := hJ.l12
  have hR0 := hR.th 0
  refine zs_aload_n B dX5_replaceIf_0 (i := 0) rfl rfl ?_
  refine zs_iconst (v := 0) B dX5_replaceIf_1 (by decide) ?_
  refine zs_put B (wX5_replaceIf_54 rfl rfl) rfl (Nat.le_of_ble_eq_true rfl) dX5_replaceIf_2 ?_
  refine zs_eq (wl' := zm_W 0 (a, zm_th v 0)) rfl rfl rfl rfl ?_
  refine zs_aload_n B dX5_replaceIf_5 (i := 0) rfl rfl ?_
  refine zs_aload_n B dX5_replaceIf_6 (i := 0) rfl rfl ?_
  refine zs_get B fX5_replaceIf_9 rfl rfl dX5_replaceIf_7 ?_
  refine zs_iload_n B dX5_replaceIf_10 (i := 1) rfl rfl ?_
  refine zs_callV0 (n := 2) B (zm_place hl D dA a (zm_th v 0) 1 zm_a1 U.1.1 hR0.1.2.1 hR0.1.1 (by omega) key) gX5_replaceIf_X5_place rfl ⟨rfl, by decide, by decide, by decide +kernel⟩ rfl rfl rfl (by rfl) ⟨(by exact Nat.le_of_ble_eq_true rfl), (by exact Nat.le_of_ble_eq_true rfl)⟩ (by exact Nat.le_of_ble_eq_true rfl) ⟨(by exact Nat.le_of_ble_eq_true rfl), (by exact Nat.le_of_ble_eq_true rfl)⟩ dX5_replaceIf_11 (by rintro v w ⟨rfl, rfl⟩; rfl) (fun _ _ h => h.elim) (fun _ _ h => h.elim) ?_
  rintro r w ⟨rfl, rfl⟩
  refine zs_istore B dX5_replaceIf_14 (i := 4) (by decide) rfl ?_
  refine zs_iload B dX5_replaceIf_16 (i := 4) rfl ?_
  refine zs_if_lt (tgt := 32) B dX5_replaceIf_18 (by decide) (fun h => ?_) (fun h => ?_)
  · have hh : ¬ zl_find U.1.1 key < U.1.1.length := fun q => Int32.not_lt.mpr ((zl_fi_ge h12 key).mpr q) h
    refine zs_iconst (v := 0) B dX5_replaceIf_32 (by decide) ?_
    exact zs_zret hA B rfl rfl (by decide) (by decide) ⟨(a, zm_th v 0), Or.inl ⟨fun q => hh q.1, rfl, hR0⟩, rfl⟩ dX5_replaceIf_33
  · have hh := (zl_fi_ge h12 key).mp (Int32.not_lt.mp h)
    refine zs_aload_n B dX5_replaceIf_21 (i := 0) rfl rfl ?_
    refine zs_get B fX5_replaceIf_13 rfl rfl dX5_replaceIf_22 ?_
    refine zs_iload B dX5_replaceIf_25 (i := 4) rfl ?_
    refine zs_mget 2 (zl_find U.1.1 key) zm_a2 (by omega) (zl_fi_in hh) B dX5_replaceIf_27 ?_
    rw [show a 2 (zl_find U.1.1 key) = zm_val1 U key from zm_valAt (L := U.1.1) hR.1.2.2.1 h12 hh]
    refine zs_iload_n B dX5_replaceIf_28 (i := 2) rfl rfl ?_
    refine zs_icmp_eq (tgt := 34) B dX5_replaceIf_29 (by decide) (fun h2 => ?_) (fun h2 => ?_)
    · refine zs_aload_n B dX5_replaceIf_34 (i := 0) rfl rfl ?_
      refine zs_callV0 (n := 0) B (zm_changes hl D dA (a, zm_th v 0) U 0 hR0 hI) gX5_replaceIf_X5_changes rfl ⟨rfl, by decide, by decide, by decide +kernel⟩ rfl rfl rfl (by rfl) ⟨(by exact Nat.le_of_ble_eq_true rfl), (by exact Nat.le_of_ble_eq_true rfl)⟩ (by exact Nat.le_of_ble_eq_true rfl) ⟨(by exact Nat.le_of_ble_eq_true rfl), (by exact Nat.le_of_ble_eq_true rfl)⟩ dX5_replaceIf_35 (by rintro v w ⟨rfl, x9, h9, rfl⟩; rfl) (fun _ _ h => h.elim) (fun _ _ h => h.elim) ?_
      rintro r w ⟨rfl, ⟨a1, v1⟩, hR1, rfl⟩
      refine zs_aload_n B dX5_replaceIf_38 (i := 0) rfl rfl ?_
      refine zs_get B fX5_replaceIf_13 rfl rfl dX5_replaceIf_39 ?_
      refine zs_iload B dX5_replaceIf_42 (i := 4) rfl ?_
      refine zs_iload_n B dX5_replaceIf_44 (i := 3) rfl rfl ?_
      refine zs_mset 2 (zl_find U.1.1 key) zm_a2 (by omega) (zl_fi_in hh) B dX5_replaceIf_45 ?_
      refine zs_aload_n B dX5_replaceIf_46 (i := 0) rfl rfl ?_
      refine zs_iload_n B dX5_replaceIf_47 (i := 1) rfl rfl ?_
      refine zs_callV0 (n := 1) B (zm_touched hl D dA _ (zp_give U.1 key x, (zm_chg U).2) 0 (zm_R.give hR1 hJ hh x) (hI.1.give key x).1 key (zm_give_mem hJ key x (zl_find_mem.mp hh))) gX5_replaceIf_X5_touched rfl ⟨rfl, by decide, by decide, by decide +kernel⟩ rfl rfl rfl (by rfl) ⟨(by exact Nat.le_of_ble_eq_true rfl), (by exact Nat.le_of_ble_eq_true rfl)⟩ (by exact Nat.le_of_ble_eq_true rfl) ⟨(by exact Nat.le_of_ble_eq_true rfl), (by exact Nat.le_of_ble_eq_true rfl)⟩ dX5_replaceIf_48 (by rintro v w ⟨rfl, x9, h9, rfl⟩; rfl) (fun _ _ h => h.elim) (fun _ _ h => h.elim) ?_
      rintro r w ⟨rfl, d2, hR2, rfl⟩
      refine zs_iconst (v := 1) B dX5_replaceIf_51 (by decide) ?_
      exact zs_zret hA B rfl rfl (by decide) (by decide) ⟨d2, Or.inr ⟨⟨hh, h2⟩, rfl, hR2⟩, rfl⟩ dX5_replaceIf_52
    · refine zs_iconst (v := 0) B dX5_replaceIf_32 (by decide) ?_
      exact zs_zret hA B rfl rfl (by decide) (by decide) ⟨(a, zm_th v 0), Or.inl ⟨fun q => h2 q.2, rfl, hR0⟩, rfl⟩ dX5_replaceIf_33
set_option maxHeartbeats 8000000 in
theorem zm_look {l : Launch} (hl : l.stackTraces = false) (D : va_G) (dA : Nat → ClassId) (d : zm_D) (U : zm_U) (t : Int32) (hR : zm_R U t d) (hI : zm_I U) (key : Int32) :
    zw_Sp l D dA yX5_look wsX5_look 5 0 0 [.ref 0, .int key] (zm_W 0 d)
    (fun r w => ∃ d', ((¬ zm_has U key ∧ r = some (.int 0) ∧ zm_R U 1 d') ∨ (zm_has U key ∧ r = some (.int (zm_val1 U key)) ∧ zm_R U 0 d')) ∧ w = zm_W 0 d') (fun _ _ => False) := by
  refine zw_start hl (by decide) rfl rfl (Nat.le_of_ble_eq_true rfl) ?_
  intro pr e s m args below meth c ad A hA B
  obtain ⟨a, v⟩ := d
  have hJ := hI.1.1
  have h12 := hJ.l12
  refine zs_aload_n B dX5_look_0 (i := 0) rfl rfl ?_
  refine zs_aload_n B dX5_look_1 (i := 0) rfl rfl ?_
  refine zs_get B fX5_look_9 rfl rfl dX5_look_2 ?_
  refine zs_iload_n B dX5_look_5 (i := 1) rfl rfl ?_
  refine zs_callV0 (n := 2) B (zm_place hl D dA a v 1 zm_a1 U.1.1 hR.1.2.1 hR.1.1 (by omega) key) gX5_look_X5_place rfl ⟨rfl, by decide, by decide, by decide +kernel⟩ rfl rfl rfl (by rfl) ⟨(by exact Nat.le_of_ble_eq_true rfl), (by exact Nat.le_of_ble_eq_true rfl)⟩ (by exact Nat.le_of_ble_eq_true rfl) ⟨(by exact Nat.le_of_ble_eq_true rfl), (by exact Nat.le_of_ble_eq_true rfl)⟩ dX5_look_6 (by rintro v w ⟨rfl, rfl⟩; rfl) (fun _ _ h => h.elim) (fun _ _ h => h.elim) ?_
  rintro r w ⟨rfl, rfl⟩
  refine zs_istore_n B dX5_look_9 (i := 2) rfl (by decide) rfl ?_
  refine zs_aload_n B dX5_look_10 (i := 0) rfl rfl ?_
  refine zs_iload_n B dX5_look_11 (i := 2) rfl rfl ?_
  refine zs_if_lt (tgt := 19) B dX5_look_12 (by decide) (fun h => ?_) (fun h => ?_)
  · have hh : ¬ zl_find U.1.1 key < U.1.1.length := fun q => Int32.not_lt.mpr ((zl_fi_ge h12 key).mpr q) h
    refine zs_iconst (v := 0) B dX5_look_19 (by decide) ?_
    refine zs_iconst (v := 1) B dX5_look_20 (by decide) ?_
    refine zs_callV0 (n := 2) B (zm_no hl D dA a v false 1) gX5_look_X5_no rfl ⟨rfl, by decide, by decide, by decide +kernel⟩ rfl rfl rfl (by rfl) ⟨(by exact Nat.le_of_ble_eq_true rfl), (by exact Nat.le_of_ble_eq_true rfl)⟩ (by exact Nat.le_of_ble_eq_true rfl) ⟨(by exact Nat.le_of_ble_eq_true rfl), (by exact Nat.le_of_ble_eq_true rfl)⟩ dX5_look_21 (by rintro v w ⟨rfl, rfl⟩; rfl) (fun _ _ h => h.elim) (fun _ _ h => h.elim) ?_
    rintro r w ⟨rfl, rfl⟩
    refine zs_if_eq (tgt := 31) B dX5_look_24 (by decide) (fun h => absurd h (by decide)) (fun _ => ?_)
    refine zs_iconst (v := 0) B dX5_look_27 (by decide) ?_
    refine zs_goto (tgt := 37) B dX5_look_28 (by decide) ?_
    exact zs_zret hA B rfl rfl (by decide) (by decide) ⟨(a, zm_th v 1), Or.inl ⟨hh, rfl, hR.th 1⟩, rfl⟩ dX5_look_37
  · have hh := (zl_fi_ge h12 key).mp (Int32.not_lt.mp h)
    refine zs_iconst (v := 1) B dX5_look_15 (by decide) ?_
    refine zs_goto (tgt := 20) B dX5_look_16 (by decide) ?_
    refine zs_iconst (v := 1) B dX5_look_20 (by decide) ?_
    refine zs_callV0 (n := 2) B (zm_no hl D dA a v true 1) gX5_look_X5_no rfl ⟨rfl, by decide, by decide, by decide +kernel⟩ rfl rfl rfl (by rfl) ⟨(by exact Nat.le_of_ble_eq_true rfl), (by exact Nat.le_of_ble_eq_true rfl)⟩ (by exact Nat.le_of_ble_eq_true rfl) ⟨(by exact Nat.le_of_ble_eq_true rfl), (by exact Nat.le_of_ble_eq_true rfl)⟩ dX5_look_21 (by rintro v w ⟨rfl, rfl⟩; rfl) (fun _ _ h => h.elim) (fun _ _ h => h.elim) ?_
    rintro r w ⟨rfl, rfl⟩
    refine zs_if_eq (tgt := 31) B dX5_look_24 (by decide) (fun _ => ?_) (fun h => absurd rfl h)
    refine zs_aload_n B dX5_look_31 (i := 0) rfl rfl ?_
    refine zs_get B fX5_look_13 rfl rfl dX5_look_32 ?_
    refine zs_iload_n B dX5_look_35 (i := 2) rfl rfl ?_
    refine zs_mget 2 (zl_find U.1.1 key) zm_a2 (by omega) (zl_fi_in hh) B dX5_look_36 ?_
    rw [show a 2 (zl_find U.1.1 key) = zm_val1 U key from zm_valAt (L := U.1.1) hR.1.2.2.1 h12 hh]
    exact zs_zret hA B rfl rfl (by decide) (by decide) ⟨(a, zm_th v 0), Or.inr ⟨hh, rfl, hR.th 0⟩, rfl⟩ dX5_look_37
set_option maxHeartbeats 8000000 in
theorem zm_hasM {l : Launch} (hl : l.stackTraces = false) (D : va_G) (dA : Nat → ClassId) (d : zm_D) (U : zm_U) (t : Int32) (hR : zm_R U t d) (hI : zm_I U) (key : Int32) :
    zw_Sp l D dA yX5_has wsX5_has 5 0 0 [.ref 0, .int key] (zm_W 0 d)
    (fun r w => ∃ d', (r = some (.int (zf_b (decide (zl_find U.1.1 key < U.1.1.length)))) ∧ zm_R U 0 d') ∧ w = zm_W 0 d') (fun _ _ => False) := by
  refine zw_start hl (by decide) rfl rfl (Nat.le_of_ble_eq_true rfl) ?_
  intro pr e s m args below meth c ad A hA B
  obtain ⟨a, v⟩ := d
  have hJ := hI.1.1
  have h12 := hJ.l12
  have hR0 := hR.th 0
  refine zs_aload_n B dX5_has_0 (i := 0) rfl rfl ?_
  refine zs_iconst (v := 0) B dX5_has_1 (by decide) ?_
  refine zs_put B (wX5_has_54 rfl rfl) rfl (Nat.le_of_ble_eq_true rfl) dX5_has_2 ?_
  refine zs_eq (wl' := zm_W 0 (a, zm_th v 0)) rfl rfl rfl rfl ?_
  refine zs_aload_n B dX5_has_5 (i := 0) rfl rfl ?_
  refine zs_aload_n B dX5_has_6 (i := 0) rfl rfl ?_
  refine zs_get B fX5_has_9 rfl rfl dX5_has_7 ?_
  refine zs_iload_n B dX5_has_10 (i := 1) rfl rfl ?_
  refine zs_callV0 (n := 2) B (zm_place hl D dA a (zm_th v 0) 1 zm_a1 U.1.1 hR0.1.2.1 hR0.1.1 (by omega) key) gX5_has_X5_place rfl ⟨rfl, by decide, by decide, by decide +kernel⟩ rfl rfl rfl (by rfl) ⟨(by exact Nat.le_of_ble_eq_true rfl), (by exact Nat.le_of_ble_eq_true rfl)⟩ (by exact Nat.le_of_ble_eq_true rfl) ⟨(by exact Nat.le_of_ble_eq_true rfl), (by exact Nat.le_of_ble_eq_true rfl)⟩ dX5_has_11 (by rintro v w ⟨rfl, rfl⟩; rfl) (fun _ _ h => h.elim) (fun _ _ h => h.elim) ?_
  rintro r w ⟨rfl, rfl⟩
  refine zs_if_lt (tgt := 21) B dX5_has_14 (by decide) (fun h => ?_) (fun h => ?_)
  · have hh : ¬ zl_find U.1.1 key < U.1.1.length := fun q => Int32.not_lt.mpr ((zl_fi_ge h12 key).mpr q) h
    refine zs_iconst (v := 0) B dX5_has_21 (by decide) ?_
    exact zs_zret hA B rfl rfl (by decide) (by decide) ⟨(a, zm_th v 0), ⟨by rw [decide_eq_false hh]; rfl, hR0⟩, rfl⟩ dX5_has_22
  · have hh := (zl_fi_ge h12 key).mp (Int32.not_lt.mp h)
    refine zs_iconst (v := 1) B dX5_has_17 (by decide) ?_
    refine zs_goto (tgt := 22) B dX5_has_18 (by decide) ?_
    exact zs_zret hA B rfl rfl (by decide) (by decide) ⟨(a, zm_th v 0), ⟨by rw [decide_eq_true hh]; rfl, hR0⟩, rfl⟩ dX5_has_22
theorem zm_take_eq {S : zp_L} (hJ : zp_J S) (key : Int32) : (S.1.eraseIdx (zl_find S.1 key), S.2.1.eraseIdx (zl_find S.2.1 key), S.2.2) = zp_take S key := by
  unfold zp_take
  rw [zl_close_eq hJ.l12, zl_close_eq hJ.a12]
theorem zm_outJ {l : Launch} (hl : l.stackTraces = false) (D : va_G) (dA : Nat → ClassId) (d : zm_D) (U : zm_U) (t : Int32) (hR : zm_R U t d) (hJ : zp_J U.1) (key : Int32) (hm : key ∈ U.1.1.map (·.1)) :
    zw_Sp l D dA yX5_out wsX5_out 1 0 0 [.ref 0, .int key] (zm_W 0 d) (fun r w => r = none ∧ ∃ d', zm_R (zp_take U.1 key, U.2) t d' ∧ w = zm_W 0 d') (fun _ _ => False) := by
  have h := zm_out hl D dA d U t hR (by have := hJ.l12; omega) hJ.len key (zl_find_mem.mpr hm) (zl_find_mem.mpr ((hJ.mem _).mpr hm))
  rw [zm_take_eq hJ key] at h
  exact h
set_option maxHeartbeats 8000000 in
theorem zm_remove {l : Launch} (hl : l.stackTraces = false) (D : va_G) (dA : Nat → ClassId) (d : zm_D) (U : zm_U) (t : Int32) (hR : zm_R U t d) (hI : zm_I U) (key : Int32) :
    zw_Sp l D dA yX5_remove wsX5_remove 5 0 0 [.ref 0, .int key] (zm_W 0 d)
    (fun r w => ∃ d', ((¬ zm_has U key ∧ r = some (.int 0) ∧ zm_R U 1 d') ∨ (zm_has U key ∧ r = some (.int (zm_val1 U key)) ∧ zm_R (zm_set1 (zm_chg U) (zp_take U.1 key)) 0 d')) ∧ w = zm_W 0 d') (fun _ _ => False) := by
  refine zw_start hl (by decide) rfl rfl (Nat.le_of_ble_eq_true rfl) ?_
  intro pr e s m args below meth c ad A hA B
  obtain ⟨a, v⟩ := d
  have hJ := hI.1.1
  have h12 := hJ.l12
  refine zs_aload_n B dX5_remove_0 (i := 0) rfl rfl ?_
  refine zs_aload_n B dX5_remove_1 (i := 0) rfl rfl ?_
  refine zs_get B fX5_remove_9 rfl rfl dX5_remove_2 ?_
  refine zs_iload_n B dX5_remove_5 (i := 1) rfl rfl ?_
  refine zs_callV0 (n := 2) B (zm_place hl D dA a v 1 zm_a1 U.1.1 hR.1.2.1 hR.1.1 (by omega) key) gX5_remove_X5_place rfl ⟨rfl, by decide, by decide, by decide +kernel⟩ rfl rfl rfl (by rfl) ⟨(by exact Nat.le_of_ble_eq_true rfl), (by exact Nat.le_of_ble_eq_true rfl)⟩ (by exact Nat.le_of_ble_eq_true rfl) ⟨(by exact Nat.le_of_ble_eq_true rfl), (by exact Nat.le_of_ble_eq_true rfl)⟩ dX5_remove_6 (by rintro v w ⟨rfl, rfl⟩; rfl) (fun _ _ h => h.elim) (fun _ _ h => h.elim) ?_
  rintro r w ⟨rfl, rfl⟩
  refine zs_istore_n B dX5_remove_9 (i := 2) rfl (by decide) rfl ?_
  refine zs_aload_n B dX5_remove_10 (i := 0) rfl rfl ?_
  refine zs_iload_n B dX5_remove_11 (i := 2) rfl rfl ?_
  refine zs_if_lt (tgt := 19) B dX5_remove_12 (by decide) (fun h => ?_) (fun h => ?_)
  · have hh : ¬ zl_find U.1.1 key < U.1.1.length := fun q => Int32.not_lt.mpr ((zl_fi_ge h12 key).mpr q) h
    refine zs_iconst (v := 0) B dX5_remove_19 (by decide) ?_
    refine zs_iconst (v := 1) B dX5_remove_20 (by decide) ?_
    refine zs_callV0 (n := 2) B (zm_no hl D dA a v false 1) gX5_remove_X5_no rfl ⟨rfl, by decide, by decide, by decide +kernel⟩ rfl rfl rfl (by rfl) ⟨(by exact Nat.le_of_ble_eq_true rfl), (by exact Nat.le_of_ble_eq_true rfl)⟩ (by exact Nat.le_of_ble_eq_true rfl) ⟨(by exact Nat.le_of_ble_eq_true rfl), (by exact Nat.le_of_ble_eq_true rfl)⟩ dX5_remove_21 (by rintro v w ⟨rfl, rfl⟩; rfl) (fun _ _ h => h.elim) (fun _ _ h => h.elim) ?_
    rintro r w ⟨rfl, rfl⟩
    refine zs_if_eq (tgt := 29) B dX5_remove_24 (by decide) (fun h => absurd h (by decide)) (fun _ => ?_)
    refine zs_iconst (v := 0) B dX5_remove_27 (by decide) ?_
    exact zs_zret hA B rfl rfl (by decide) (by decide) ⟨(a, zm_th v 1), Or.inl ⟨hh, rfl, hR.th 1⟩, rfl⟩ dX5_remove_28
  · have hh := (zl_fi_ge h12 key).mp (Int32.not_lt.mp h)
    refine zs_iconst (v := 1) B dX5_remove_15 (by decide) ?_
    refine zs_goto (tgt := 20) B dX5_remove_16 (by decide) ?_
    refine zs_iconst (v := 1) B dX5_remove_20 (by decide) ?_
    refine zs_callV0 (n := 2) B (zm_no hl D dA a v true 1) gX5_remove_X5_no rfl ⟨rfl, by decide, by decide, by decide +kernel⟩ rfl rfl rfl (by rfl) ⟨(by exact Nat.le_of_ble_eq_true rfl), (by exact Nat.le_of_ble_eq_true rfl)⟩ (by exact Nat.le_of_ble_eq_true rfl) ⟨(by exact Nat.le_of_ble_eq_true rfl), (by exact Nat.le_of_ble_eq_true rfl)⟩ dX5_remove_21 (by rintro v w ⟨rfl, rfl⟩; rfl) (fun _ _ h => h.elim) (fun _ _ h => h.elim) ?_
    rintro r w ⟨rfl, rfl⟩
    refine zs_if_eq (tgt := 29) B dX5_remove_24 (by decide) (fun _ => ?_) (fun h => absurd rfl h)
    refine zs_aload_n B dX5_remove_29 (i := 0) rfl rfl ?_
    refine zs_get B fX5_remove_13 rfl rfl dX5_remove_30 ?_
    refine zs_iload_n B dX5_remove_33 (i := 2) rfl rfl ?_
    refine zs_mget 2 (zl_find U.1.1 key) zm_a2 (by omega) (zl_fi_in hh) B dX5_remove_34 ?_
    rw [show a 2 (zl_find U.1.1 key) = zm_val1 U key from zm_valAt (L := U.1.1) hR.1.2.2.1 h12 hh]
    refine zs_istore_n B dX5_remove_35 (i := 3) rfl (by decide) rfl ?_
    refine zs_aload_n B dX5_remove_36 (i := 0) rfl rfl ?_
    refine zs_callV0 (n := 0) B (zm_changes hl D dA (a, zm_th v 0) U 0 (hR.th 0) hI) gX5_remove_X5_changes rfl ⟨rfl, by decide, by decide, by decide +kernel⟩ rfl rfl rfl (by rfl) ⟨(by exact Nat.le_of_ble_eq_true rfl), (by exact Nat.le_of_ble_eq_true rfl)⟩ (by exact Nat.le_of_ble_eq_true rfl) ⟨(by exact Nat.le_of_ble_eq_true rfl), (by exact Nat.le_of_ble_eq_true rfl)⟩ dX5_remove_37 (by rintro v w ⟨rfl, x9, h9, rfl⟩; rfl) (fun _ _ h => h.elim) (fun _ _ h => h.elim) ?_
    rintro r w ⟨rfl, d1, hR1, rfl⟩
    refine zs_aload_n B dX5_remove_40 (i := 0) rfl rfl ?_
    refine zs_iload_n B dX5_remove_41 (i := 1) rfl rfl ?_
    refine zs_callV0 (n := 1) B (zm_outJ hl D dA d1 (zm_chg U) 0 hR1 hJ key (zl_find_mem.mp hh)) gX5_remove_X5_out rfl ⟨rfl, by decide, by decide, by decide +kernel⟩ rfl rfl rfl (by rfl) ⟨(by exact Nat.le_of_ble_eq_true rfl), (by exact Nat.le_of_ble_eq_true rfl)⟩ (by exact Nat.le_of_ble_eq_true rfl) ⟨(by exact Nat.le_of_ble_eq_true rfl), (by exact Nat.le_of_ble_eq_true rfl)⟩ dX5_remove_42 (by rintro v w ⟨rfl, x9, h9, rfl⟩; rfl) (fun _ _ h => h.elim) (fun _ _ h => h.elim) ?_
    rintro r w ⟨rfl, d2, hR2, rfl⟩
    refine zs_iload_n B dX5_remove_45 (i := 3) rfl rfl ?_
    exact zs_zret hA B rfl rfl (by decide) (by decide) ⟨d2, Or.inr ⟨hh, rfl, hR2⟩, rfl⟩ dX5_remove_46
set_option maxHeartbeats 8000000 in
theorem zm_size {l : Launch} (hl : l.stackTraces = false) (D : va_G) (dA : Nat → ClassId) (d : zm_D) (U : zm_U) (t : Int32) (hR : zm_R U t d) :
    zw_Sp l D dA yX5_size wsX5_size 5 0 0 [.ref 0] (zm_W 0 d)
    (fun r w => ∃ d', (r = some (.int (nI U.1.1.length)) ∧ zm_R U 0 d') ∧ w = zm_W 0 d') (fun _ _ => False) := by
  refine zw_start hl (by decide) rfl rfl (Nat.le_of_ble_eq_true rfl) ?_
  intro pr e s m args below meth c ad A hA B
  obtain ⟨a, v⟩ := d
  refine zs_aload_n B dX5_size_0 (i := 0) rfl rfl ?_
  refine zs_iconst (v := 0) B dX5_size_1 (by decide) ?_
  refine zs_put B (wX5_size_54 rfl rfl) rfl (Nat.le_of_ble_eq_true rfl) dX5_size_2 ?_
  refine zs_aload_n B dX5_size_5 (i := 0) rfl rfl ?_
  refine zs_get B fX5_size_57 rfl rfl dX5_size_6 ?_
  refine zs_zret hA B rfl rfl (by decide) (by decide) ⟨(a, zm_th v 0), ⟨?_, hR.th 0⟩, rfl⟩ dX5_size_9
  rw [← hR.1.1]
theorem zm_thrown {l : Launch} (hl : l.stackTraces = false) (D : va_G) (dA : Nat → ClassId) (d : zm_D) (U : zm_U) (t : Int32) (hR : zm_R U t d) :
    zw_Sp l D dA yX5_thrown wsX5_thrown 5 0 0 [.ref 0] (zm_W 0 d) (fun r w => r = some (.int t) ∧ w = zm_W 0 d) (fun _ _ => False) := by
  refine zw_start hl (by decide) rfl rfl (Nat.le_of_ble_eq_true rfl) ?_
  intro pr e s m args below meth c ad A hA B
  obtain ⟨a, v⟩ := d
  refine zs_aload_n B dX5_thrown_0 (i := 0) rfl rfl ?_
  refine zs_get B fX5_thrown_54 rfl rfl dX5_thrown_1 ?_
  refine zs_zret hA B rfl rfl (by decide) (by decide) ⟨?_, rfl⟩ dX5_thrown_4
  rw [← hR.2.2.2]
  rfl
