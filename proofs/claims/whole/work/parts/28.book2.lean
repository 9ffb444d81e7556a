/-! the book's methods -/
theorem zb_R.setP {T : zb_T} {x : zb_D} (h : zb_R T x) {S : zp_L} {g : zp_D} (hg : zp_R S g) (e : S.2.2.2 = T.1.2.2.2) : zb_R (zb_set T S) (g, x.2) :=
  ⟨hg, zp_ok_same h.1 hg e h.2.1, h.2.2⟩
theorem zf_b_nar (b : Bool) : narrow .boolean (.int (zf_b b)) = .int (zf_b b) := by cases b <;> rfl
def zb_has (T : zb_T) (key : Int32) : Prop := zl_find T.1.1 key < T.1.1.length
theorem zb_hasT {T : zb_T} {key : Int32} (h : ¬ zf_b (decide (zl_find T.1.1 key < T.1.1.length)) = 0) : zb_has T key := of_decide_eq_true (p := zl_find T.1.1 key < T.1.1.length) (zf_b_ne h)
theorem zb_hasF {T : zb_T} {key : Int32} (h : zf_b (decide (zl_find T.1.1 key < T.1.1.length)) = 0) : ¬ zb_has T key := of_decide_eq_false (p := zl_find T.1.1 key < T.1.1.length) (zf_b_eq h)
theorem zb_has_not {T : zb_T} {key : Int32} (h : ¬ zb_has T key) : key ∉ T.1.1.map (·.1) := fun q => h (zl_find_mem.mpr q)
set_option maxHeartbeats 4000000 in
theorem zb_put {l : Launch} (hl : l.stackTraces = false) (D : va_G) (dA : Nat → ClassId) (x : zb_D) (T : zb_T) (hR : zb_R T x) (hI : zp_I T.1) (key v : Int32) : zw_Sp l D dA yX4_put wsX4_put 7 1 6 [.ref 0, .int key, .int v] (zb_W x)
    (fun r w => (0 ≤ key.toInt ∧ key.toInt ≤ 99) ∧ ∃ x', ((zb_has T key ∧ r = some (.int (-1)) ∧ zb_R (zb_set (zb_chg T) (zp_touch (zp_give T.1 key v) key)) x') ∨ (¬ zb_has T key ∧ r = some (.int (zp_gone T.1)) ∧ zb_R (zb_set (zb_chg T) (zp_let T.1 key v)) x')) ∧ w = zb_W x') (fun E w => E = zE_a ∧ w = zb_W x ∧ ¬ (0 ≤ key.toInt ∧ key.toInt ≤ 99)) := by
  refine zw_start hl (by decide) rfl rfl (Nat.le_of_ble_eq_true rfl) ?_
  intro pr e s m args below meth c ad A hA B
  refine zs_aload_n B dX4_put_0 (i := 0) rfl rfl ?_
  refine zs_iload_n B dX4_put_1 (i := 1) rfl rfl ?_
  refine zs_callV0 (n := 1) B (zb_refuseKey hl D dA x key) gX4_put_X4_refuseKeyOutOfRange rfl ⟨rfl, by decide, by decide, by decide +kernel⟩ rfl rfl rfl (by rfl) ⟨(by exact Nat.le_of_ble_eq_true rfl), (by exact Nat.le_of_ble_eq_true rfl)⟩ (by exact Nat.le_of_ble_eq_true rfl) ⟨(by exact Nat.le_of_ble_eq_true rfl), (by exact Nat.le_of_ble_eq_true rfl)⟩ dX4_put_2 (by rintro v w ⟨rfl, rfl, -⟩; rfl) (by rintro E w ⟨rfl, rfl, -⟩; rfl) (by rintro E w ⟨rfl, rfl, hx9⟩; exact zs_xout hA B (by exact Nat.le_of_ble_eq_true rfl) (by exact Nat.le_of_ble_eq_true rfl) ⟨rfl, rfl, hx9⟩) ?_
  rintro r w ⟨rfl, rfl, hkey⟩
  refine zs_aload_n B dX4_put_5 (i := 0) rfl rfl ?_
  refine zs_callV0 (n := 0) B (zb_beginChange hl D dA x T hR) gX4_put_X4_beginChange rfl ⟨rfl, by decide, by decide, by decide +kernel⟩ rfl rfl rfl (by rfl) ⟨(by exact Nat.le_of_ble_eq_true rfl), (by exact Nat.le_of_ble_eq_true rfl)⟩ (by exact Nat.le_of_ble_eq_true rfl) ⟨(by exact Nat.le_of_ble_eq_true rfl), (by exact Nat.le_of_ble_eq_true rfl)⟩ dX4_put_6 (by rintro v w ⟨rfl, x9, h9, rfl⟩; rfl) (fun _ _ h => h.elim) (fun _ _ h => h.elim) ?_
  rintro r w ⟨rfl, x1, hR1, rfl⟩
  refine zs_aload_n B dX4_put_9 (i := 0) rfl rfl ?_
  refine zs_get B fX4_put_10 rfl rfl dX4_put_10 ?_
  refine zs_iload_n B dX4_put_13 (i := 1) rfl rfl ?_
  refine zs_callV (n := 1) [1, 2, 3, 4, 5, 6, 7] B (zp_holds hl D dA x1.1 T.1 hR1.1 key) gX4_put_X0_holds rfl ⟨rfl, by decide, by decide, by decide +kernel⟩ rfl (by rfl) rfl rfl rfl (by rfl) ⟨(by exact Nat.le_of_ble_eq_true rfl), (by exact Nat.le_of_ble_eq_true rfl)⟩ (by exact Nat.le_of_ble_eq_true rfl) ⟨(by exact Nat.le_of_ble_eq_true rfl), (by exact Nat.le_of_ble_eq_true rfl)⟩ dX4_put_14 (by rintro v w ⟨rfl, rfl⟩; rfl) (fun _ _ h => h.elim) (fun _ _ h => h.elim) ?_
  rintro r w ⟨rfl, rfl⟩
  refine zs_eq (wl' := zb_W x1) (st' := [.int (zf_b (decide (zl_find T.1.1 key < T.1.1.length)))]) (zb_upP x1 x1.1) rfl rfl rfl ?_
  refine zs_if_eq (tgt := 39) B dX4_put_17 (by decide) (fun h => ?_) (fun h => ?_)
  · have h9 : ¬ zb_has T key := zb_hasF h
    refine zs_aload_n B dX4_put_39 (i := 0) rfl rfl ?_
    refine zs_get B fX4_put_10 rfl rfl dX4_put_40 ?_
    refine zs_iload_n B dX4_put_43 (i := 1) rfl rfl ?_
    refine zs_iload_n B dX4_put_44 (i := 2) rfl rfl ?_
    refine zs_callV (n := 2) [1, 2, 3, 4, 5, 6, 7] B (zp_letIn hl D dA x1.1 T.1 hR1.1 (zp_mm T.1) hI.1.1 hI.1.2.2.1 hI.1.len (zp_drop12 hI.1).1 (zp_drop12 hI.1).2 key v) gX4_put_X0_letIn rfl ⟨rfl, by decide, by decide, by decide +kernel⟩ rfl (by rfl) rfl rfl rfl (by rfl) ⟨(by exact Nat.le_of_ble_eq_true rfl), (by exact Nat.le_of_ble_eq_true rfl)⟩ (by exact Nat.le_of_ble_eq_true rfl) ⟨(by exact Nat.le_of_ble_eq_true rfl), (by exact Nat.le_of_ble_eq_true rfl)⟩ dX4_put_45 (by rintro v w ⟨rfl, d9, h9, rfl⟩; rfl) (fun _ _ h => h.elim) (fun _ _ h => h.elim) ?_
    rintro r w ⟨rfl, g1, hg1, rfl⟩
    refine zs_eq (wl' := zb_W (g1, x1.2)) (st' := [.int (zp_gone T.1)]) (zb_upP x1 g1) rfl rfl rfl ?_
    refine zs_zret hA B rfl rfl (by decide) (by decide) ⟨hkey, _, Or.inr ⟨h9, rfl, hR1.setP (S := zp_let T.1 key v) hg1 ?_⟩, rfl⟩ dX4_put_48
    show (zp_app (if T.1.1.length < zp_mm T.1 then T.1 else zp_drop T.1) key v).2.2.2 = T.1.2.2.2
    split <;> rfl
  · have h9 : zb_has T key := zb_hasT h
    refine zs_aload_n B dX4_put_20 (i := 0) rfl rfl ?_
    refine zs_get B fX4_put_10 rfl rfl dX4_put_21 ?_
    refine zs_iload_n B dX4_put_24 (i := 1) rfl rfl ?_
    refine zs_iload_n B dX4_put_25 (i := 2) rfl rfl ?_
    refine zs_callV (n := 2) [1, 2, 3, 4, 5, 6, 7] B (zp_giveKey hl D dA x1.1 T.1 hR1.1 key v) gX4_put_X0_giveKey rfl ⟨rfl, by decide, by decide, by decide +kernel⟩ rfl (by rfl) rfl rfl rfl (by rfl) ⟨(by exact Nat.le_of_ble_eq_true rfl), (by exact Nat.le_of_ble_eq_true rfl)⟩ (by exact Nat.le_of_ble_eq_true rfl) ⟨(by exact Nat.le_of_ble_eq_true rfl), (by exact Nat.le_of_ble_eq_true rfl)⟩ dX4_put_26 (by rintro v w ⟨rfl, d9, h9, rfl⟩; rfl) (fun _ _ h => h.elim) (fun _ _ h => h.elim) ?_
    rintro r w ⟨rfl, g1, hg1, rfl⟩
    refine zs_eq (wl' := zb_W (g1, x1.2)) (st' := []) (zb_upP x1 g1) rfl rfl rfl ?_
    refine zs_aload_n B dX4_put_29 (i := 0) rfl rfl ?_
    refine zs_get B fX4_put_10 rfl rfl dX4_put_30 ?_
    refine zs_iload_n B dX4_put_33 (i := 1) rfl rfl ?_
    refine zs_callV (n := 1) [1, 2, 3, 4, 5, 6, 7] B (zp_touchM hl D dA g1 _ hg1 key) gX4_put_X0_touch rfl ⟨rfl, by decide, by decide, by decide +kernel⟩ rfl (by rfl) rfl rfl rfl (by rfl) ⟨(by exact Nat.le_of_ble_eq_true rfl), (by exact Nat.le_of_ble_eq_true rfl)⟩ (by exact Nat.le_of_ble_eq_true rfl) ⟨(by exact Nat.le_of_ble_eq_true rfl), (by exact Nat.le_of_ble_eq_true rfl)⟩ dX4_put_34 (by rintro v w ⟨rfl, d9, h9, rfl⟩; rfl) (fun _ _ h => h.elim) (fun _ _ h => h.elim) ?_
    rintro r w ⟨rfl, g2, hg2, rfl⟩
    refine zs_eq (wl' := zb_W (g2, x1.2)) (st' := []) (zb_upP (g1, x1.2) g2) rfl rfl rfl ?_
    refine zs_iconst (v := (-1)) B dX4_put_37 (by decide) ?_
    exact zs_zret hA B rfl rfl (by decide) (by decide) ⟨hkey, _, Or.inl ⟨h9, rfl, hR1.setP hg2 rfl⟩, rfl⟩ dX4_put_38
set_option maxHeartbeats 4000000 in
theorem zb_putIfAbsent {l : Launch} (hl : l.stackTraces = false) (D : va_G) (dA : Nat → ClassId) (x : zb_D) (T : zb_T) (hR : zb_R T x) (hI : zp_I T.1) (key v : Int32) : zw_Sp l D dA yX4_putIfAbsent wsX4_putIfAbsent 7 1 6 [.ref 0, .int key, .int v] (zb_W x)
    (fun r w => (0 ≤ key.toInt ∧ key.toInt ≤ 99) ∧ ∃ x', ((zb_has T key ∧ r = some (.int 0) ∧ zb_R (zb_set (zb_chg T) (zp_touch T.1 key)) x') ∨ (¬ zb_has T key ∧ r = some (.int 1) ∧ zb_R (zb_set (zb_chg T) (zp_let T.1 key v)) x')) ∧ w = zb_W x') (fun E w => E = zE_a ∧ w = zb_W x ∧ ¬ (0 ≤ key.toInt ∧ key.toInt ≤ 99)) := by
  refine zw_start hl (by decide) rfl rfl (Nat.le_of_ble_eq_true rfl) ?_
  intro pr e s m args below meth c ad A hA B
  refine zs_aload_n B dX4_putIfAbsent_0 (i := 0) rfl rfl ?_
  refine zs_iload_n B dX4_putIfAbsent_1 (i := 1) rfl rfl ?_
  refine zs_callV0 (n := 1) B (zb_refuseKey hl D dA x key) gX4_putIfAbsent_X4_refuseKeyOutOfRange rfl ⟨rfl, by decide, by decide, by decide +kernel⟩ rfl rfl rfl (by rfl) ⟨(by exact Nat.le_of_ble_eq_true rfl), (by exact Nat.le_of_ble_eq_true rfl)⟩ (by exact Nat.le_of_ble_eq_true rfl) ⟨(by exact Nat.le_of_ble_eq_true rfl), (by exact Nat.le_of_ble_eq_true rfl)⟩ dX4_putIfAbsent_2 (by rintro v w ⟨rfl, rfl, -⟩; rfl) (by rintro E w ⟨rfl, rfl, -⟩; rfl) (by rintro E w ⟨rfl, rfl, hx9⟩; exact zs_xout hA B (by exact Nat.le_of_ble_eq_true rfl) (by exact Nat.le_of_ble_eq_true rfl) ⟨rfl, rfl, hx9⟩) ?_
  rintro r w ⟨rfl, rfl, hkey⟩
  refine zs_aload_n B dX4_putIfAbsent_5 (i := 0) rfl rfl ?_
  refine zs_callV0 (n := 0) B (zb_beginChange hl D dA x T hR) gX4_putIfAbsent_X4_beginChange rfl ⟨rfl, by decide, by decide, by decide +kernel⟩ rfl rfl rfl (by rfl) ⟨(by exact Nat.le_of_ble_eq_true rfl), (by exact Nat.le_of_ble_eq_true rfl)⟩ (by exact Nat.le_of_ble_eq_true rfl) ⟨(by exact Nat.le_of_ble_eq_true rfl), (by exact Nat.le_of_ble_eq_true rfl)⟩ dX4_putIfAbsent_6 (by rintro v w ⟨rfl, x9, h9, rfl⟩; rfl) (fun _ _ h => h.elim) (fun _ _ h => h.elim) ?_
  rintro r w ⟨rfl, x1, hR1, rfl⟩
  refine zs_aload_n B dX4_putIfAbsent_9 (i := 0) rfl rfl ?_
  refine zs_get B fX4_putIfAbsent_10 rfl rfl dX4_putIfAbsent_10 ?_
  refine zs_iload_n B dX4_putIfAbsent_13 (i := 1) rfl rfl ?_
  refine zs_callV (n := 1) [1, 2, 3, 4, 5, 6, 7] B (zp_holds hl D dA x1.1 T.1 hR1.1 key) gX4_putIfAbsent_X0_holds rfl ⟨rfl, by decide, by decide, by decide +kernel⟩ rfl (by rfl) rfl rfl rfl (by rfl) ⟨(by exact Nat.le_of_ble_eq_true rfl), (by exact Nat.le_of_ble_eq_true rfl)⟩ (by exact Nat.le_of_ble_eq_true rfl) ⟨(by exact Nat.le_of_ble_eq_true rfl), (by exact Nat.le_of_ble_eq_true rfl)⟩ dX4_putIfAbsent_14 (by rintro v w ⟨rfl, rfl⟩; rfl) (fun _ _ h => h.elim) (fun _ _ h => h.elim) ?_
  rintro r w ⟨rfl, rfl⟩
  refine zs_eq (wl' := zb_W x1) (st' := [.int (zf_b (decide (zl_find T.1.1 key < T.1.1.length)))]) (zb_upP x1 x1.1) rfl rfl rfl ?_
  refine zs_if_eq (tgt := 30) B dX4_putIfAbsent_17 (by decide) (fun h => ?_) (fun h => ?_)
  · have h9 : ¬ zb_has T key := zb_hasF h
    refine zs_aload_n B dX4_putIfAbsent_30 (i := 0) rfl rfl ?_
    refine zs_get B fX4_putIfAbsent_10 rfl rfl dX4_putIfAbsent_31 ?_
    refine zs_iload_n B dX4_putIfAbsent_34 (i := 1) rfl rfl ?_
    refine zs_iload_n B dX4_putIfAbsent_35 (i := 2) rfl rfl ?_
    refine zs_callV (n := 2) [1, 2, 3, 4, 5, 6, 7] B (zp_letIn hl D dA x1.1 T.1 hR1.1 (zp_mm T.1) hI.1.1 hI.1.2.2.1 hI.1.len (zp_drop12 hI.1).1 (zp_drop12 hI.1).2 key v) gX4_putIfAbsent_X0_letIn rfl ⟨rfl, by decide, by decide, by decide +kernel⟩ rfl (by rfl) rfl rfl rfl (by rfl) ⟨(by exact Nat.le_of_ble_eq_true rfl), (by exact Nat.le_of_ble_eq_true rfl)⟩ (by exact Nat.le_of_ble_eq_true rfl) ⟨(by exact Nat.le_of_ble_eq_true rfl), (by exact Nat.le_of_ble_eq_true rfl)⟩ dX4_putIfAbsent_36 (by rintro v w ⟨rfl, d9, h9, rfl⟩; rfl) (fun _ _ h => h.elim) (fun _ _ h => h.elim) ?_
    rintro r w ⟨rfl, g1, hg1, rfl⟩
    refine zs_eq (wl' := zb_W (g1, x1.2)) (st' := [.int (zp_gone T.1)]) (zb_upP x1 g1) rfl rfl rfl ?_
    refine zs_pop B dX4_putIfAbsent_39 rfl ?_
    refine zs_iconst (v := 1) B dX4_putIfAbsent_40 (by decide) ?_
    refine zs_zret hA B rfl rfl (by decide) (by decide) ⟨hkey, _, Or.inr ⟨h9, rfl, hR1.setP (S := zp_let T.1 key v) hg1 ?_⟩, rfl⟩ dX4_putIfAbsent_41
    show (zp_app (if T.1.1.length < zp_mm T.1 then T.1 else zp_drop T.1) key v).2.2.2 = T.1.2.2.2
    split <;> rfl
  · have h9 : zb_has T key := zb_hasT h
    refine zs_aload_n B dX4_putIfAbsent_20 (i := 0) rfl rfl ?_
    refine zs_get B fX4_putIfAbsent_10 rfl rfl dX4_putIfAbsent_21 ?_
    refine zs_iload_n B dX4_putIfAbsent_24 (i := 1) rfl rfl ?_
    refine zs_callV (n := 1) [1, 2, 3, 4, 5, 6, 7] B (zp_touchM hl D dA x1.1 T.1 hR1.1 key) gX4_putIfAbsent_X0_touch rfl ⟨rfl, by decide, by decide, by decide +kernel⟩ rfl (by rfl) rfl rfl rfl (by rfl) ⟨(by exact Nat.le_of_ble_eq_true rfl), (by exact Nat.le_of_ble_eq_true rfl)⟩ (by exact Nat.le_of_ble_eq_true rfl) ⟨(by exact Nat.le_of_ble_eq_true rfl), (by exact Nat.le_of_ble_eq_true rfl)⟩ dX4_putIfAbsent_25 (by rintro v w ⟨rfl, d9, h9, rfl⟩; rfl) (fun _ _ h => h.elim) (fun _ _ h => h.elim) ?_
    rintro r w ⟨rfl, g2, hg2, rfl⟩
    refine zs_eq (wl' := zb_W (g2, x1.2)) (st' := []) (zb_upP x1 g2) rfl rfl rfl ?_
    refine zs_iconst (v := 0) B dX4_putIfAbsent_28 (by decide) ?_
    exact zs_zret hA B rfl rfl (by decide) (by decide) ⟨hkey, _, Or.inl ⟨h9, rfl, hR1.setP hg2 rfl⟩, rfl⟩ dX4_putIfAbsent_29
/-- what a key has -/
def zb_val (T : zb_T) (key : Int32) : Int32 := zl_val T.1.1 (zl_fo T.1.1 key)
set_option maxHeartbeats 4000000 in
theorem zb_get {l : Launch} (hl : l.stackTraces = false) (D : va_G) (dA : Nat → ClassId) (x : zb_D) (T : zb_T) (hR : zb_R T x) (key : Int32) : zw_Sp l D dA yX4_get wsX4_get 7 1 6 [.ref 0, .int key] (zb_W x)
    (fun r w => zb_has T key ∧ r = some (.int (zb_val T key)) ∧ ∃ x', zb_R (zb_set (zb_chg T) (zp_touch T.1 key)) x' ∧ w = zb_W x') (fun E w => E = zE_n ∧ w = zb_W x ∧ ¬ zb_has T key) := by
  refine zw_start hl (by decide) rfl rfl (Nat.le_of_ble_eq_true rfl) ?_
  intro pr e s m args below meth c ad A hA B
  refine zs_aload_n B dX4_get_0 (i := 0) rfl rfl ?_
  refine zs_iload_n B dX4_get_1 (i := 1) rfl rfl ?_
  refine zs_callV0 (n := 1) B (zb_refuseAbsent hl D dA x T hR key) gX4_get_X4_refuseAbsentKey rfl ⟨rfl, by decide, by decide, by decide +kernel⟩ rfl rfl rfl (by rfl) ⟨(by exact Nat.le_of_ble_eq_true rfl), (by exact Nat.le_of_ble_eq_true rfl)⟩ (by exact Nat.le_of_ble_eq_true rfl) ⟨(by exact Nat.le_of_ble_eq_true rfl), (by exact Nat.le_of_ble_eq_true rfl)⟩ dX4_get_2 (by rintro v w ⟨rfl, rfl, -⟩; rfl) (by rintro E w ⟨rfl, rfl, -⟩; rfl) (by rintro E w ⟨rfl, rfl, hx9⟩; exact zs_xout hA B (by exact Nat.le_of_ble_eq_true rfl) (by exact Nat.le_of_ble_eq_true rfl) ⟨rfl, rfl, hx9⟩) ?_
  rintro r w ⟨rfl, rfl, hkey⟩
  refine zs_aload_n B dX4_get_5 (i := 0) rfl rfl ?_
  refine zs_callV0 (n := 0) B (zb_beginChange hl D dA x T hR) gX4_get_X4_beginChange rfl ⟨rfl, by decide, by decide, by decide +kernel⟩ rfl rfl rfl (by rfl) ⟨(by exact Nat.le_of_ble_eq_true rfl), (by exact Nat.le_of_ble_eq_true rfl)⟩ (by exact Nat.le_of_ble_eq_true rfl) ⟨(by exact Nat.le_of_ble_eq_true rfl), (by exact Nat.le_of_ble_eq_true rfl)⟩ dX4_get_6 (by rintro v w ⟨rfl, x9, h9, rfl⟩; rfl) (fun _ _ h => h.elim) (fun _ _ h => h.elim) ?_
  rintro r w ⟨rfl, x1, hR1, rfl⟩
  refine zs_aload_n B dX4_get_9 (i := 0) rfl rfl ?_
  refine zs_get B fX4_get_10 rfl rfl dX4_get_10 ?_
  refine zs_iload_n B dX4_get_13 (i := 1) rfl rfl ?_
  refine zs_callV (n := 1) [1, 2, 3, 4, 5, 6, 7] B (zp_touchM hl D dA x1.1 T.1 hR1.1 key) gX4_get_X0_touch rfl ⟨rfl, by decide, by decide, by decide +kernel⟩ rfl (by rfl) rfl rfl rfl (by rfl) ⟨(by exact Nat.le_of_ble_eq_true rfl), (by exact Nat.le_of_ble_eq_true rfl)⟩ (by exact Nat.le_of_ble_eq_true rfl) ⟨(by exact Nat.le_of_ble_eq_true rfl), (by exact Nat.le_of_ble_eq_true rfl)⟩ dX4_get_14 (by rintro v w ⟨rfl, d9, h9, rfl⟩; rfl) (fun _ _ h => h.elim) (fun _ _ h => h.elim) ?_
  rintro r w ⟨rfl, g2, hg2, rfl⟩
  refine zs_eq (wl' := zb_W (g2, x1.2)) (st' := []) (zb_upP x1 g2) rfl rfl rfl ?_
  refine zs_aload_n B dX4_get_17 (i := 0) rfl rfl ?_
  refine zs_get B fX4_get_10 rfl rfl dX4_get_18 ?_
  refine zs_iload_n B dX4_get_21 (i := 1) rfl rfl ?_
  refine zs_callV (n := 1) [1, 2, 3, 4, 5, 6, 7] B (zp_valueOf hl D dA g2 _ hg2 key) gX4_get_X0_valueOf rfl ⟨rfl, by decide, by decide, by decide +kernel⟩ rfl (by rfl) rfl rfl rfl (by rfl) ⟨(by exact Nat.le_of_ble_eq_true rfl), (by exact Nat.le_of_ble_eq_true rfl)⟩ (by exact Nat.le_of_ble_eq_true rfl) ⟨(by exact Nat.le_of_ble_eq_true rfl), (by exact Nat.le_of_ble_eq_true rfl)⟩ dX4_get_22 (by rintro v w ⟨rfl, rfl⟩; rfl) (fun _ _ h => h.elim) (fun _ _ h => h.elim) ?_
  rintro r w ⟨rfl, rfl⟩
  refine zs_eq (wl' := zb_W (g2, x1.2)) (st' := [.int (zb_val T key)]) (zb_upP (g2, x1.2) g2) rfl rfl rfl ?_
  exact zs_zret hA B rfl rfl (by decide) (by decide) ⟨hkey, rfl, _, hR1.setP hg2 rfl, rfl⟩ dX4_get_25
set_option maxHeartbeats 4000000 in
theorem zb_getOr {l : Launch} (hl : l.stackTraces = false) (D : va_G) (dA : Nat → ClassId) (x : zb_D) (T : zb_T) (hR : zb_R T x) (key v : Int32) : zw_Sp l D dA yX4_getOr wsX4_getOr 7 0 0 [.ref 0, .int key, .int v] (zb_W x)
    (fun r w => ∃ x', ((zb_has T key ∧ r = some (.int (zb_val T key)) ∧ zb_R (zb_set (zb_chg T) (zp_touch T.1 key)) x') ∨ (¬ zb_has T key ∧ r = some (.int v) ∧ zb_R T x')) ∧ w = zb_W x') (fun _ _ => False) := by
  refine zw_start hl (by decide) rfl rfl (Nat.le_of_ble_eq_true rfl) ?_
  intro pr e s m args below meth c ad A hA B
  refine zs_aload_n B dX4_getOr_0 (i := 0) rfl rfl ?_
  refine zs_get B fX4_getOr_10 rfl rfl dX4_getOr_1 ?_
  refine zs_iload_n B dX4_getOr_4 (i := 1) rfl rfl ?_
  refine zs_callV (n := 1) [1, 2, 3, 4, 5, 6, 7] B (zp_holds hl D dA x.1 T.1 hR.1 key) gX4_getOr_X0_holds rfl ⟨rfl, by decide, by decide, by decide +kernel⟩ rfl (by rfl) rfl rfl rfl (by rfl) ⟨(by exact Nat.le_of_ble_eq_true rfl), (by exact Nat.le_of_ble_eq_true rfl)⟩ (by exact Nat.le_of_ble_eq_true rfl) ⟨(by exact Nat.le_of_ble_eq_true rfl), (by exact Nat.le_of_ble_eq_true rfl)⟩ dX4_getOr_5 (by rintro v w ⟨rfl, rfl⟩; rfl) (fun _ _ h => h.elim) (fun _ _ h => h.elim) ?_
  rintro r w ⟨rfl, rfl⟩
  refine zs_eq (wl' := zb_W x) (st' := [.int (zf_b (decide (zl_find T.1.1 key < T.1.1.length)))]) (zb_upP x x.1) rfl rfl rfl ?_
  refine zs_if_ne (tgt := 13) B dX4_getOr_8 (by decide) (fun h => ?_) (fun h => ?_)
  · have h9 : zb_has T key := zb_hasT h
    refine zs_aload_n B dX4_getOr_13 (i := 0) rfl rfl ?_
    refine zs_callV0 (n := 0) B (zb_beginChange hl D dA x T hR) gX4_getOr_X4_beginChange rfl ⟨rfl, by decide, by decide, by decide +kernel⟩ rfl rfl rfl (by rfl) ⟨(by exact Nat.le_of_ble_eq_true rfl), (by exact Nat.le_of_ble_eq_true rfl)⟩ (by exact Nat.le_of_ble_eq_true rfl) ⟨(by exact Nat.le_of_ble_eq_true rfl), (by exact Nat.le_of_ble_eq_true rfl)⟩ dX4_getOr_14 (by rintro v w ⟨rfl, x9, h9, rfl⟩; rfl) (fun _ _ h => h.elim) (fun _ _ h => h.elim) ?_
    rintro r w ⟨rfl, x1, hR1, rfl⟩
    refine zs_aload_n B dX4_getOr_17 (i := 0) rfl rfl ?_
    refine zs_get B fX4_getOr_10 rfl rfl dX4_getOr_18 ?_
    refine zs_iload_n B dX4_getOr_21 (i := 1) rfl rfl ?_
    refine zs_callV (n := 1) [1, 2, 3, 4, 5, 6, 7] B (zp_touchM hl D dA x1.1 T.1 hR1.1 key) gX4_getOr_X0_touch rfl ⟨rfl, by decide, by decide, by decide +kernel⟩ rfl (by rfl) rfl rfl rfl (by rfl) ⟨(by exact Nat.le_of_ble_eq_true rfl), (by exact Nat.le_of_ble_eq_true rfl)⟩ (by exact Nat.le_of_ble_eq_true rfl) ⟨(by exact Nat.le_of_ble_eq_true rfl), (by exact Nat.le_of_ble_eq_true rfl)⟩ dX4_getOr_22 (by rintro v w ⟨rfl, d9, h9, rfl⟩; rfl) (fun _ _ h => h.elim) (fun _ _ h => h.elim) ?_
    rintro r w ⟨rfl, g2, hg2, rfl⟩
    refine zs_eq (wl' := zb_W (g2, x1.2)) (st' := []) (zb_upP x1 g2) rfl rfl rfl ?_
    refine zs_aload_n B dX4_getOr_25 (i := 0) rfl rfl ?_
    refine zs_get B fX4_getOr_10 rfl rfl dX4_getOr_26 ?_
    refine zs_iload_n B dX4_getOr_29 (i := 1) rfl rfl ?_
    refine zs_callV (n := 1) [1, 2, 3, 4, 5, 6, 7] B (zp_valueOf hl D dA g2 _ hg2 key) gX4_getOr_X0_valueOf rfl ⟨rfl, by decide, by decide, by decide +kernel⟩ rfl (by rfl) rfl rfl rfl (by rfl) ⟨(by exact Nat.le_of_ble_eq_true rfl), (by exact Nat.le_of_ble_eq_true rfl)⟩ (by exact Nat.le_of_ble_eq_true rfl) ⟨(by exact Nat.le_of_ble_eq_true rfl), (by exact Nat.le_of_ble_eq_true rfl)⟩ dX4_getOr_30 (by rintro v w ⟨rfl, rfl⟩; rfl) (fun _ _ h => h.elim) (fun _ _ h => h.elim) ?_
    rintro r w ⟨rfl, rfl⟩
    refine zs_eq (wl' := zb_W (g2, x1.2)) (st' := [.int (zb_val T key)]) (zb_upP (g2, x1.2) g2) rfl rfl rfl ?_
    exact zs_zret hA B rfl rfl (by decide) (by decide) ⟨_, Or.inl ⟨h9, rfl, hR1.setP hg2 rfl⟩, rfl⟩ dX4_getOr_33
  · have h9 : ¬ zb_has T key := zb_hasF h
    refine zs_iload_n B dX4_getOr_11 (i := 2) rfl rfl ?_
    exact zs_zret hA B rfl rfl (by decide) (by decide) ⟨_, Or.inr ⟨h9, rfl, hR⟩, rfl⟩ dX4_getOr_12
set_option maxHeartbeats 4000000 in
theorem zb_replace {l : Launch} (hl : l.stackTraces = false) (D : va_G) (dA : Nat → ClassId) (x : zb_D) (T : zb_T) (hR : zb_R T x) (key v : Int32) : zw_Sp l D dA yX4_replace wsX4_replace 7 0 0 [.ref 0, .int key, .int v] (zb_W x)
    (fun r w => ∃ x', ((zb_has T key ∧ r = some (.int 1) ∧ zb_R (zb_set (zb_chg T) (zp_touch (zp_give T.1 key v) key)) x') ∨ (¬ zb_has T key ∧ r = some (.int 0) ∧ zb_R T x')) ∧ w = zb_W x') (fun _ _ => False) := by
  refine zw_start hl (by decide) rfl rfl (Nat.le_of_ble_eq_true rfl) ?_
  intro pr e s m args below meth c ad A hA B
  refine zs_aload_n B dX4_replace_0 (i := 0) rfl rfl ?_
  refine zs_get B fX4_replace_10 rfl rfl dX4_replace_1 ?_
  refine zs_iload_n B dX4_replace_4 (i := 1) rfl rfl ?_
  refine zs_callV (n := 1) [1, 2, 3, 4, 5, 6, 7] B (zp_holds hl D dA x.1 T.1 hR.1 key) gX4_replace_X0_holds rfl ⟨rfl, by decide, by decide, by decide +kernel⟩ rfl (by rfl) rfl rfl rfl (by rfl) ⟨(by exact Nat.le_of_ble_eq_true rfl), (by exact Nat.le_of_ble_eq_true rfl)⟩ (by exact Nat.le_of_ble_eq_true rfl) ⟨(by exact Nat.le_of_ble_eq_true rfl), (by exact Nat.le_of_ble_eq_true rfl)⟩ dX4_replace_5 (by rintro v w ⟨rfl, rfl⟩; rfl) (fun _ _ h => h.elim) (fun _ _ h => h.elim) ?_
  rintro r w ⟨rfl, rfl⟩
  refine zs_eq (wl' := zb_W x) (st' := [.int (zf_b (decide (zl_find T.1.1 key < T.1.1.length)))]) (zb_upP x x.1) rfl rfl rfl ?_
  refine zs_if_ne (tgt := 13) B dX4_replace_8 (by decide) (fun h => ?_) (fun h => ?_)
  · have h9 : zb_has T key := zb_hasT h
    refine zs_aload_n B dX4_replace_13 (i := 0) rfl rfl ?_
    refine zs_callV0 (n := 0) B (zb_beginChange hl D dA x T hR) gX4_replace_X4_beginChange rfl ⟨rfl, by decide, by decide, by decide +kernel⟩ rfl rfl rfl (by rfl) ⟨(by exact Nat.le_of_ble_eq_true rfl), (by exact Nat.le_of_ble_eq_true rfl)⟩ (by exact Nat.le_of_ble_eq_true rfl) ⟨(by exact Nat.le_of_ble_eq_true rfl), (by exact Nat.le_of_ble_eq_true rfl)⟩ dX4_replace_14 (by rintro v w ⟨rfl, x9, h9, rfl⟩; rfl) (fun _ _ h => h.elim) (fun _ _ h => h.elim) ?_
    rintro r w ⟨rfl, x1, hR1, rfl⟩
    refine zs_aload_n B dX4_replace_17 (i := 0) rfl rfl ?_
    refine zs_get B fX4_replace_10 rfl rfl dX4_replace_18 ?_
    refine zs_iload_n B dX4_replace_21 (i := 1) rfl rfl ?_
    refine zs_iload_n B dX4_replace_22 (i := 2) rfl rfl ?_
    refine zs_callV (n := 2) [1, 2, 3, 4, 5, 6, 7] B (zp_giveKey hl D dA x1.1 T.1 hR1.1 key v) gX4_replace_X0_giveKey rfl ⟨rfl, by decide, by decide, by decide +kernel⟩ rfl (by rfl) rfl rfl rfl (by rfl) ⟨(by exact Nat.le_of_ble_eq_true rfl), (by exact Nat.le_of_ble_eq_true rfl)⟩ (by exact Nat.le_of_ble_eq_true rfl) ⟨(by exact Nat.le_of_ble_eq_true rfl), (by exact Nat.le_of_ble_eq_true rfl)⟩ dX4_replace_23 (by rintro v w ⟨rfl, d9, h9, rfl⟩; rfl) (fun _ _ h => h.elim) (fun _ _ h => h.elim) ?_
    rintro r w ⟨rfl, g1, hg1, rfl⟩
    refine zs_eq (wl' := zb_W (g1, x1.2)) (st' := []) (zb_upP x1 g1) rfl rfl rfl ?_
    refine zs_aload_n B dX4_replace_26 (i := 0) rfl rfl ?_
    refine zs_get B fX4_replace_10 rfl rfl dX4_replace_27 ?_
    refine zs_iload_n B dX4_replace_30 (i := 1) rfl rfl ?_
    refine zs_callV (n := 1) [1, 2, 3, 4, 5, 6, 7] B (zp_touchM hl D dA g1 _ hg1 key) gX4_replace_X0_touch rfl ⟨rfl, by decide, by decide, by decide +kernel⟩ rfl (by rfl) rfl rfl rfl (by rfl) ⟨(by exact Nat.le_of_ble_eq_true rfl), (by exact Nat.le_of_ble_eq_true rfl)⟩ (by exact Nat.le_of_ble_eq_true rfl) ⟨(by exact Nat.le_of_ble_eq_true rfl), (by exact Nat.le_of_ble_eq_true rfl)⟩ dX4_replace_31 (by rintro v w ⟨rfl, d9, h9, rfl⟩; rfl) (fun _ _ h => h.elim) (fun _ _ h => h.elim) ?_
    rintro r w ⟨rfl, g2, hg2, rfl⟩
    refine zs_eq (wl' := zb_W (g2, x1.2)) (st' := []) (zb_upP (g1, x1.2) g2) rfl rfl rfl ?_
    refine zs_iconst (v := 1) B dX4_replace_34 (by decide) ?_
    exact zs_zret hA B rfl rfl (by decide) (by decide) ⟨_, Or.inl ⟨h9, rfl, hR1.setP hg2 rfl⟩, rfl⟩ dX4_replace_35
  · have h9 : ¬ zb_has T key := zb_hasF h
    refine zs_iconst (v := 0) B dX4_replace_11 (by decide) ?_
    exact zs_zret hA B rfl rfl (by decide) (by decide) ⟨_, Or.inr ⟨h9, rfl, hR⟩, rfl⟩ dX4_replace_12
set_option maxHeartbeats 4000000 in
theorem zb_replaceIf {l : Launch} (hl : l.stackTraces = false) (D : va_G) (dA : Nat → ClassId) (x : zb_D) (T : zb_T) (hR : zb_R T x) (key bf v : Int32) : zw_Sp l D dA yX4_replaceIf wsX4_replaceIf 7 0 0 [.ref 0, .int key, .int bf, .int v] (zb_W x)
    (fun r w => ∃ x', (((zb_has T key ∧ zb_val T key = bf) ∧ r = some (.int 1) ∧ zb_R (zb_set (zb_chg T) (zp_touch (zp_give T.1 key v) key)) x') ∨ (¬ (zb_has T key ∧ zb_val T key = bf) ∧ r = some (.int 0) ∧ zb_R T x')) ∧ w = zb_W x') (fun _ _ => False) := by
  refine zw_start hl (by decide) rfl rfl (Nat.le_of_ble_eq_true rfl) ?_
  intro pr e s m args below meth c ad A hA B
  refine zs_aload_n B dX4_replaceIf_0 (i := 0) rfl rfl ?_
  refine zs_get B fX4_replaceIf_10 rfl rfl dX4_replaceIf_1 ?_
  refine zs_iload_n B dX4_replaceIf_4 (i := 1) rfl rfl ?_
  refine zs_callV (n := 1) [1, 2, 3, 4, 5, 6, 7] B (zp_holds hl D dA x.1 T.1 hR.1 key) gX4_replaceIf_X0_holds rfl ⟨rfl, by decide, by decide, by decide +kernel⟩ rfl (by rfl) rfl rfl rfl (by rfl) ⟨(by exact Nat.le_of_ble_eq_true rfl), (by exact Nat.le_of_ble_eq_true rfl)⟩ (by exact Nat.le_of_ble_eq_true rfl) ⟨(by exact Nat.le_of_ble_eq_true rfl), (by exact Nat.le_of_ble_eq_true rfl)⟩ dX4_replaceIf_5 (by rintro v w ⟨rfl, rfl⟩; rfl) (fun _ _ h => h.elim) (fun _ _ h => h.elim) ?_
  rintro r w ⟨rfl, rfl⟩
  refine zs_eq (wl' := zb_W x) (st' := [.int (zf_b (decide (zl_find T.1.1 key < T.1.1.length)))]) (zb_upP x x.1) rfl rfl rfl ?_
  refine zs_if_eq (tgt := 23) B dX4_replaceIf_8 (by decide) (fun h => ?_) (fun h => ?_)
  · have h9 : ¬ zb_has T key := zb_hasF h
    refine zs_iconst (v := 0) B dX4_replaceIf_23 (by decide) ?_
    exact zs_zret hA B rfl rfl (by decide) (by decide) ⟨_, Or.inr ⟨fun q => h9 q.1, rfl, hR⟩, rfl⟩ dX4_replaceIf_24
  · have h9 : zb_has T key := zb_hasT h
    refine zs_aload_n B dX4_replaceIf_11 (i := 0) rfl rfl ?_
    refine zs_get B fX4_replaceIf_10 rfl rfl dX4_replaceIf_12 ?_
    refine zs_iload_n B dX4_replaceIf_15 (i := 1) rfl rfl ?_
    refine zs_callV (n := 1) [1, 2, 3, 4, 5, 6, 7] B (zp_valueOf hl D dA x.1 T.1 hR.1 key) gX4_replaceIf_X0_valueOf rfl ⟨rfl, by decide, by decide, by decide +kernel⟩ rfl (by rfl) rfl rfl rfl (by rfl) ⟨(by exact Nat.le_of_ble_eq_true rfl), (by exact Nat.le_of_ble_eq_true rfl)⟩ (by exact Nat.le_of_ble_eq_true rfl) ⟨(by exact Nat.le_of_ble_eq_true rfl), (by exact Nat.le_of_ble_eq_true rfl)⟩ dX4_replaceIf_16 (by rintro v w ⟨rfl, rfl⟩; rfl) (fun _ _ h => h.elim) (fun _ _ h => h.elim) ?_
    rintro r w ⟨rfl, rfl⟩
    refine zs_eq (wl' := zb_W x) (st' := [.int (zb_val T key)]) (zb_upP x x.1) rfl rfl rfl ?_
    refine zs_iload_n B dX4_replaceIf_19 (i := 2) rfl rfl ?_
    refine zs_icmp_eq (tgt := 25) B dX4_replaceIf_20 (by decide) (fun h2 => ?_) (fun h2 => ?_)
    · refine zs_aload_n B dX4_replaceIf_25 (i := 0) rfl rfl ?_
      refine zs_callV0 (n := 0) B (zb_beginChange hl D dA x T hR) gX4_replaceIf_X4_beginChange rfl ⟨rfl, by decide, by decide, by decide +kernel⟩ rfl rfl rfl (by rfl) ⟨(by exact Nat.le_of_ble_eq_true rfl), (by exact Nat.le_of_ble_eq_true rfl)⟩ (by exact Nat.le_of_ble_eq_true rfl) ⟨(by exact Nat.le_of_ble_eq_true rfl), (by exact Nat.le_of_ble_eq_true rfl)⟩ dX4_replaceIf_26 (by rintro v w ⟨rfl, x9, h9, rfl⟩; rfl) (fun _ _ h => h.elim) (fun _ _ h => h.elim) ?_
      rintro r w ⟨rfl, x1, hR1, rfl⟩
      refine zs_aload_n B dX4_replaceIf_29 (i := 0) rfl rfl ?_
      refine zs_get B fX4_replaceIf_10 rfl rfl dX4_replaceIf_30 ?_
      refine zs_iload_n B dX4_replaceIf_33 (i := 1) rfl rfl ?_
      refine zs_iload_n B dX4_replaceIf_34 (i := 3) rfl rfl ?_
      refine zs_callV (n := 2) [1, 2, 3, 4, 5, 6, 7] B (zp_giveKey hl D dA x1.1 T.1 hR1.1 key v) gX4_replaceIf_X0_giveKey rfl ⟨rfl, by decide, by decide, by decide +kernel⟩ rfl (by rfl) rfl rfl rfl (by rfl) ⟨(by exact Nat.le_of_ble_eq_true rfl), (by exact Nat.le_of_ble_eq_true rfl)⟩ (by exact Nat.le_of_ble_eq_true rfl) ⟨(by exact Nat.le_of_ble_eq_true rfl), (by exact Nat.le_of_ble_eq_true rfl)⟩ dX4_replaceIf_35 (by rintro v w ⟨rfl, d9, h9, rfl⟩; rfl) (fun _ _ h => h.elim) (fun _ _ h => h.elim) ?_
      rintro r w ⟨rfl, g1, hg1, rfl⟩
      refine zs_eq (wl' := zb_W (g1, x1.2)) (st' := []) (zb_upP x1 g1) rfl rfl rfl ?_
      refine zs_aload_n B dX4_replaceIf_38 (i := 0) rfl rfl ?_
      refine zs_get B fX4_replaceIf_10 rfl rfl dX4_replaceIf_39 ?_
      refine zs_iload_n B dX4_replaceIf_42 (i := 1) rfl rfl ?_
      refine zs_callV (n := 1) [1, 2, 3, 4, 5, 6, 7] B (zp_touchM hl D dA g1 _ hg1 key) gX4_replaceIf_X0_touch rfl ⟨rfl, by decide, by decide, by decide +kernel⟩ rfl (by rfl) rfl rfl rfl (by rfl) ⟨(by exact Nat.le_of_ble_eq_true rfl), (by exact Nat.le_of_ble_eq_true rfl)⟩ (by exact Nat.le_of_ble_eq_true rfl) ⟨(by exact Nat.le_of_ble_eq_true rfl), (by exact Nat.le_of_ble_eq_true rfl)⟩ dX4_replaceIf_43 (by rintro v w ⟨rfl, d9, h9, rfl⟩; rfl) (fun _ _ h => h.elim) (fun _ _ h => h.elim) ?_
      rintro r w ⟨rfl, g2, hg2, rfl⟩
      refine zs_eq (wl' := zb_W (g2, x1.2)) (st' := []) (zb_upP (g1, x1.2) g2) rfl rfl rfl ?_
      refine zs_iconst (v := 1) B dX4_replaceIf_46 (by decide) ?_
      exact zs_zret hA B rfl rfl (by decide) (by decide) ⟨_, Or.inl ⟨⟨h9, h2⟩, rfl, hR1.setP hg2 rfl⟩, rfl⟩ dX4_replaceIf_47
    · refine zs_iconst (v := 0) B dX4_replaceIf_23 (by decide) ?_
      exact zs_zret hA B rfl rfl (by decide) (by decide) ⟨_, Or.inr ⟨fun q => h2 q.2, rfl, hR⟩, rfl⟩ dX4_replaceIf_24
set_option maxHeartbeats 4000000 in
theorem zb_look {l : Launch} (hl : l.stackTraces = false) (D : va_G) (dA : Nat → ClassId) (x : zb_D) (T : zb_T) (hR : zb_R T x) (key : Int32) : zw_Sp l D dA yX4_look wsX4_look 7 1 6 [.ref 0, .int key] (zb_W x)
    (fun r w => r = some (.int (zb_val T key)) ∧ w = zb_W x ∧ zb_has T key) (fun E w => E = zE_n ∧ w = zb_W x ∧ ¬ zb_has T key) := by
  refine zw_start hl (by decide) rfl rfl (Nat.le_of_ble_eq_true rfl) ?_
  intro pr e s m args below meth c ad A hA B
  refine zs_aload_n B dX4_look_0 (i := 0) rfl rfl ?_
  refine zs_iload_n B dX4_look_1 (i := 1) rfl rfl ?_
  refine zs_callV0 (n := 1) B (zb_refuseAbsent hl D dA x T hR key) gX4_look_X4_refuseAbsentKey rfl ⟨rfl, by decide, by decide, by decide +kernel⟩ rfl rfl rfl (by rfl) ⟨(by exact Nat.le_of_ble_eq_true rfl), (by exact Nat.le_of_ble_eq_true rfl)⟩ (by exact Nat.le_of_ble_eq_true rfl) ⟨(by exact Nat.le_of_ble_eq_true rfl), (by exact Nat.le_of_ble_eq_true rfl)⟩ dX4_look_2 (by rintro v w ⟨rfl, rfl, -⟩; rfl) (by rintro E w ⟨rfl, rfl, -⟩; rfl) (by rintro E w ⟨rfl, rfl, hx9⟩; exact zs_xout hA B (by exact Nat.le_of_ble_eq_true rfl) (by exact Nat.le_of_ble_eq_true rfl) ⟨rfl, rfl, hx9⟩) ?_
  rintro r w ⟨rfl, rfl, hkey⟩
  refine zs_aload_n B dX4_look_5 (i := 0) rfl rfl ?_
  refine zs_get B fX4_look_10 rfl rfl dX4_look_6 ?_
  refine zs_iload_n B dX4_look_9 (i := 1) rfl rfl ?_
  refine zs_callV (n := 1) [1, 2, 3, 4, 5, 6, 7] B (zp_valueOf hl D dA x.1 T.1 hR.1 key) gX4_look_X0_valueOf rfl ⟨rfl, by decide, by decide, by decide +kernel⟩ rfl (by rfl) rfl rfl rfl (by rfl) ⟨(by exact Nat.le_of_ble_eq_true rfl), (by exact Nat.le_of_ble_eq_true rfl)⟩ (by exact Nat.le_of_ble_eq_true rfl) ⟨(by exact Nat.le_of_ble_eq_true rfl), (by exact Nat.le_of_ble_eq_true rfl)⟩ dX4_look_10 (by rintro v w ⟨rfl, rfl⟩; rfl) (fun _ _ h => h.elim) (fun _ _ h => h.elim) ?_
  rintro r w ⟨rfl, rfl⟩
  refine zs_eq (wl' := zb_W x) (st' := [.int (zb_val T key)]) (zb_upP x x.1) rfl rfl rfl ?_
  exact zs_zret hA B rfl rfl (by decide) (by decide) ⟨rfl, rfl, hkey⟩ dX4_look_13
set_option maxHeartbeats 4000000 in
theorem zb_hasM {l : Launch} (hl : l.stackTraces = false) (D : va_G) (dA : Nat → ClassId) (x : zb_D) (T : zb_T) (hR : zb_R T x) (key : Int32) : zw_Sp l D dA yX4_has wsX4_has 7 0 0 [.ref 0, .int key] (zb_W x)
    (fun r w => r = some (.int (zf_b (decide (zl_find T.1.1 key < T.1.1.length)))) ∧ w = zb_W x) (fun _ _ => False) := by
  refine zw_start hl (by decide) rfl rfl (Nat.le_of_ble_eq_true rfl) ?_
  intro pr e s m args below meth c ad A hA B
  refine zs_aload_n B dX4_has_0 (i := 0) rfl rfl ?_
  refine zs_get B fX4_has_10 rfl rfl dX4_has_1 ?_
  refine zs_iload_n B dX4_has_4 (i := 1) rfl rfl ?_
  refine zs_callV (n := 1) [1, 2, 3, 4, 5, 6, 7] B (zp_holds hl D dA x.1 T.1 hR.1 key) gX4_has_X0_holds rfl ⟨rfl, by decide, by decide, by decide +kernel⟩ rfl (by rfl) rfl rfl rfl (by rfl) ⟨(by exact Nat.le_of_ble_eq_true rfl), (by exact Nat.le_of_ble_eq_true rfl)⟩ (by exact Nat.le_of_ble_eq_true rfl) ⟨(by exact Nat.le_of_ble_eq_true rfl), (by exact Nat.le_of_ble_eq_true rfl)⟩ dX4_has_5 (by rintro v w ⟨rfl, rfl⟩; rfl) (fun _ _ h => h.elim) (fun _ _ h => h.elim) ?_
  rintro r w ⟨rfl, rfl⟩
  refine zs_eq (wl' := zb_W x) (st' := [.int (zf_b (decide (zl_find T.1.1 key < T.1.1.length)))]) (zb_upP x x.1) rfl rfl rfl ?_
  exact zs_zret hA B rfl (zf_b_nar _) (by decide) (by decide) ⟨rfl, rfl⟩ dX4_has_8
set_option maxHeartbeats 4000000 in
theorem zb_remove {l : Launch} (hl : l.stackTraces = false) (D : va_G) (dA : Nat → ClassId) (x : zb_D) (T : zb_T) (hR : zb_R T x) (key : Int32) : zw_Sp l D dA yX4_remove wsX4_remove 7 1 6 [.ref 0, .int key] (zb_W x)
    (fun r w => zb_has T key ∧ r = some (.int (zb_val T key)) ∧ ∃ x', zb_R (zb_set (zb_chg T) (zp_take T.1 key)) x' ∧ w = zb_W x') (fun E w => E = zE_n ∧ w = zb_W x ∧ ¬ zb_has T key) := by
  refine zw_start hl (by decide) rfl rfl (Nat.le_of_ble_eq_true rfl) ?_
  intro pr e s m args below meth c ad A hA B
  refine zs_aload_n B dX4_remove_0 (i := 0) rfl rfl ?_
  refine zs_iload_n B dX4_remove_1 (i := 1) rfl rfl ?_
  refine zs_callV0 (n := 1) B (zb_refuseAbsent hl D dA x T hR key) gX4_remove_X4_refuseAbsentKey rfl ⟨rfl, by decide, by decide, by decide +kernel⟩ rfl rfl rfl (by rfl) ⟨(by exact Nat.le_of_ble_eq_true rfl), (by exact Nat.le_of_ble_eq_true rfl)⟩ (by exact Nat.le_of_ble_eq_true rfl) ⟨(by exact Nat.le_of_ble_eq_true rfl), (by exact Nat.le_of_ble_eq_true rfl)⟩ dX4_remove_2 (by rintro v w ⟨rfl, rfl, -⟩; rfl) (by rintro E w ⟨rfl, rfl, -⟩; rfl) (by rintro E w ⟨rfl, rfl, hx9⟩; exact zs_xout hA B (by exact Nat.le_of_ble_eq_true rfl) (by exact Nat.le_of_ble_eq_true rfl) ⟨rfl, rfl, hx9⟩) ?_
  rintro r w ⟨rfl, rfl, hkey⟩
  refine zs_aload_n B dX4_remove_5 (i := 0) rfl rfl ?_
  refine zs_get B fX4_remove_10 rfl rfl dX4_remove_6 ?_
  refine zs_iload_n B dX4_remove_9 (i := 1) rfl rfl ?_
  refine zs_callV (n := 1) [1, 2, 3, 4, 5, 6, 7] B (zp_valueOf hl D dA x.1 T.1 hR.1 key) gX4_remove_X0_valueOf rfl ⟨rfl, by decide, by decide, by decide +kernel⟩ rfl (by rfl) rfl rfl rfl (by rfl) ⟨(by exact Nat.le_of_ble_eq_true rfl), (by exact Nat.le_of_ble_eq_true rfl)⟩ (by exact Nat.le_of_ble_eq_true rfl) ⟨(by exact Nat.le_of_ble_eq_true rfl), (by exact Nat.le_of_ble_eq_true rfl)⟩ dX4_remove_10 (by rintro v w ⟨rfl, rfl⟩; rfl) (fun _ _ h => h.elim) (fun _ _ h => h.elim) ?_
  rintro r w ⟨rfl, rfl⟩
  refine zs_eq (wl' := zb_W x) (st' := [.int (zb_val T key)]) (zb_upP x x.1) rfl rfl rfl ?_
  refine zs_istore_n B dX4_remove_13 (i := 2) rfl (by decide) rfl ?_
  refine zs_aload_n B dX4_remove_14 (i := 0) rfl rfl ?_
  refine zs_callV0 (n := 0) B (zb_beginChange hl D dA x T hR) gX4_remove_X4_beginChange rfl ⟨rfl, by decide, by decide, by decide +kernel⟩ rfl rfl rfl (by rfl) ⟨(by exact Nat.le_of_ble_eq_true rfl), (by exact Nat.le_of_ble_eq_true rfl)⟩ (by exact Nat.le_of_ble_eq_true rfl) ⟨(by exact Nat.le_of_ble_eq_true rfl), (by exact Nat.le_of_ble_eq_true rfl)⟩ dX4_remove_15 (by rintro v w ⟨rfl, x9, h9, rfl⟩; rfl) (fun _ _ h => h.elim) (fun _ _ h => h.elim) ?_
  rintro r w ⟨rfl, x1, hR1, rfl⟩
  refine zs_aload_n B dX4_remove_18 (i := 0) rfl rfl ?_
  refine zs_get B fX4_remove_10 rfl rfl dX4_remove_19 ?_
  refine zs_iload_n B dX4_remove_22 (i := 1) rfl rfl ?_
  refine zs_callV (n := 1) [1, 2, 3, 4, 5, 6, 7] B (zp_takeOut hl D dA x1.1 T.1 hR1.1 key) gX4_remove_X0_takeOut rfl ⟨rfl, by decide, by decide, by decide +kernel⟩ rfl (by rfl) rfl rfl rfl (by rfl) ⟨(by exact Nat.le_of_ble_eq_true rfl), (by exact Nat.le_of_ble_eq_true rfl)⟩ (by exact Nat.le_of_ble_eq_true rfl) ⟨(by exact Nat.le_of_ble_eq_true rfl), (by exact Nat.le_of_ble_eq_true rfl)⟩ dX4_remove_23 (by rintro v w ⟨rfl, d9, h9, rfl⟩; rfl) (fun _ _ h => h.elim) (fun _ _ h => h.elim) ?_
  rintro r w ⟨rfl, g2, hg2, rfl⟩
  refine zs_eq (wl' := zb_W (g2, x1.2)) (st' := []) (zb_upP x1 g2) rfl rfl rfl ?_
  refine zs_iload_n B dX4_remove_26 (i := 2) rfl rfl ?_
  exact zs_zret hA B rfl rfl (by decide) (by decide) ⟨hkey, rfl, _, hR1.setP hg2 rfl, rfl⟩ dX4_remove_27
set_option maxHeartbeats 4000000 in
theorem zb_size {l : Launch} (hl : l.stackTraces = false) (D : va_G) (dA : Nat → ClassId) (x : zb_D) (T : zb_T) (hR : zb_R T x) : zw_Sp l D dA yX4_size wsX4_size 7 0 0 [.ref 0] (zb_W x)
    (fun r w => r = some (.int (nI T.1.1.length)) ∧ w = zb_W x) (fun _ _ => False) := by
  refine zw_start hl (by decide) rfl rfl (Nat.le_of_ble_eq_true rfl) ?_
  intro pr e s m args below meth c ad A hA B
  refine zs_aload_n B dX4_size_0 (i := 0) rfl rfl ?_
  refine zs_get B fX4_size_10 rfl rfl dX4_size_1 ?_
  refine zs_getN B fX4_size_69 rfl rfl dX4_size_4 ?_
  refine zs_callV (n := 0) [2, 3, 4] B (zr_count hl D dA x.1.1) gX4_size_X2_count rfl ⟨rfl, by decide, by decide, by decide +kernel⟩ rfl (by rfl) rfl rfl rfl (by rfl) ⟨(by exact Nat.le_of_ble_eq_true rfl), (by exact Nat.le_of_ble_eq_true rfl)⟩ (by exact Nat.le_of_ble_eq_true rfl) ⟨(by exact Nat.le_of_ble_eq_true rfl), (by exact Nat.le_of_ble_eq_true rfl)⟩ dX4_size_7 (by rintro v w ⟨rfl, rfl⟩; rfl) (fun _ _ h => h.elim) (fun _ _ h => h.elim) ?_
  rintro r w ⟨rfl, rfl⟩
  refine zs_eq (wl' := zb_W x) (st' := [.int (nI T.1.1.length)]) (zb_upC x x.1.1) rfl (by rw [← hR.1.1.1]; rfl) rfl ?_
  exact zs_zret hA B rfl rfl (by decide) (by decide) ⟨rfl, rfl⟩ dX4_size_10
