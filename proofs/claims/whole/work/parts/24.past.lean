/-! the class Tour -/
abbrev zt_D : Type := Int32 × Int32 × Int32 × Int32
def zt_W (t : zt_D) : List zw_E := [.inr (3, [.int t.1, .int t.2.1, .int t.2.2.1, .int t.2.2.2])]
set_option maxHeartbeats 4000000 in
theorem zt_isOn {l : Launch} (hl : l.stackTraces = false) (D : va_G) (dA : Nat → ClassId) (t : zt_D) (h : narrow .boolean (.int t.1) = .int t.1) : zw_Sp l D dA yX3_isOn wsX3_isOn 0 0 0 [.ref 0] (zt_W t) (fun v w => v = some (.int t.1) ∧ w = zt_W t) (fun _ _ => False) := by
  refine zw_start hl (by decide) rfl rfl (Nat.le_of_ble_eq_true rfl) ?_
  intro pr e s m args below meth c ad A hA B
  refine zs_aload_n B dX3_isOn_0 (i := 0) rfl rfl ?_
  refine zs_get B fX3_isOn_9 rfl rfl dX3_isOn_1 ?_
  exact zs_zret hA B rfl h (by decide) (by decide) ⟨rfl, rfl⟩ dX3_isOn_4
set_option maxHeartbeats 4000000 in
theorem zt_order {l : Launch} (hl : l.stackTraces = false) (D : va_G) (dA : Nat → ClassId) (t : zt_D) (h : narrow .char (.int t.2.1) = .int t.2.1) : zw_Sp l D dA yX3_order wsX3_order 0 0 0 [.ref 0] (zt_W t) (fun v w => v = some (.int t.2.1) ∧ w = zt_W t) (fun _ _ => False) := by
  refine zw_start hl (by decide) rfl rfl (Nat.le_of_ble_eq_true rfl) ?_
  intro pr e s m args below meth c ad A hA B
  refine zs_aload_n B dX3_order_0 (i := 0) rfl rfl ?_
  refine zs_get B fX3_order_15 rfl rfl dX3_order_1 ?_
  exact zs_zret hA B rfl h (by decide) (by decide) ⟨rfl, rfl⟩ dX3_order_4
set_option maxHeartbeats 4000000 in
theorem zt_nextPlace {l : Launch} (hl : l.stackTraces = false) (D : va_G) (dA : Nat → ClassId) (t : zt_D) : zw_Sp l D dA yX3_nextPlace wsX3_nextPlace 0 0 0 [.ref 0] (zt_W t) (fun v w => v = some (.int t.2.2.1) ∧ w = zt_W t) (fun _ _ => False) := by
  refine zw_start hl (by decide) rfl rfl (Nat.le_of_ble_eq_true rfl) ?_
  intro pr e s m args below meth c ad A hA B
  refine zs_aload_n B dX3_nextPlace_0 (i := 0) rfl rfl ?_
  refine zs_get B fX3_nextPlace_19 rfl rfl dX3_nextPlace_1 ?_
  exact zs_zret hA B rfl rfl (by decide) (by decide) ⟨rfl, rfl⟩ dX3_nextPlace_4
set_option maxHeartbeats 4000000 in
theorem zt_mayCut {l : Launch} (hl : l.stackTraces = false) (D : va_G) (dA : Nat → ClassId) (t : zt_D) (h : narrow .boolean (.int t.2.2.2) = .int t.2.2.2) : zw_Sp l D dA yX3_mayCut wsX3_mayCut 0 0 0 [.ref 0] (zt_W t) (fun v w => v = some (.int t.2.2.2) ∧ w = zt_W t) (fun _ _ => False) := by
  refine zw_start hl (by decide) rfl rfl (Nat.le_of_ble_eq_true rfl) ?_
  intro pr e s m args below meth c ad A hA B
  refine zs_aload_n B dX3_mayCut_0 (i := 0) rfl rfl ?_
  refine zs_get B fX3_mayCut_23 rfl rfl dX3_mayCut_1 ?_
  exact zs_zret hA B rfl h (by decide) (by decide) ⟨rfl, rfl⟩ dX3_mayCut_4
set_option maxHeartbeats 4000000 in
theorem zt_begin {l : Launch} (hl : l.stackTraces = false) (D : va_G) (dA : Nat → ClassId) (t : zt_D) (o : Int32) (h1 : narrow .char (.int o) = .int o) (h2 : fits .char (.int o) = true) : zw_Sp l D dA yX3_begin wsX3_begin 0 0 0 [.ref 0, .int o] (zt_W t) (fun v w => v = none ∧ w = zt_W (1, o, 0, 0)) (fun _ _ => False) := by
  refine zw_start hl (by decide) rfl rfl (Nat.le_of_ble_eq_true rfl) ?_
  intro pr e s m args below meth c ad A hA B
  refine zs_aload_n B dX3_begin_0 (i := 0) rfl rfl ?_
  refine zs_iconst (v := 1) B dX3_begin_1 (by decide) ?_
  refine zs_put B (wX3_begin_9 rfl rfl) rfl (Nat.le_of_ble_eq_true rfl) dX3_begin_2 ?_
  refine zs_aload_n B dX3_begin_5 (i := 0) rfl rfl ?_
  refine zs_iload_n B dX3_begin_6 (i := 1) rfl rfl ?_
  refine zs_put B (wX3_begin_15 h1 h2) rfl (Nat.le_of_ble_eq_true rfl) dX3_begin_7 ?_
  refine zs_aload_n B dX3_begin_10 (i := 0) rfl rfl ?_
  refine zs_iconst (v := 0) B dX3_begin_11 (by decide) ?_
  refine zs_put B (wX3_begin_19 rfl rfl) rfl (Nat.le_of_ble_eq_true rfl) dX3_begin_12 ?_
  refine zs_aload_n B dX3_begin_15 (i := 0) rfl rfl ?_
  refine zs_iconst (v := 0) B dX3_begin_16 (by decide) ?_
  refine zs_put B (wX3_begin_23 rfl rfl) rfl (Nat.le_of_ble_eq_true rfl) dX3_begin_17 ?_
  exact zs_vret hA B rfl (by decide) (by decide) ⟨rfl, rfl⟩ dX3_begin_20
set_option maxHeartbeats 4000000 in
theorem zt_end {l : Launch} (hl : l.stackTraces = false) (D : va_G) (dA : Nat → ClassId) (t : zt_D) : zw_Sp l D dA yX3_end wsX3_end 0 0 0 [.ref 0] (zt_W t) (fun v w => v = none ∧ w = zt_W (0, t.2)) (fun _ _ => False) := by
  refine zw_start hl (by decide) rfl rfl (Nat.le_of_ble_eq_true rfl) ?_
  intro pr e s m args below meth c ad A hA B
  refine zs_aload_n B dX3_end_0 (i := 0) rfl rfl ?_
  refine zs_iconst (v := 0) B dX3_end_1 (by decide) ?_
  refine zs_put B (wX3_end_9 rfl rfl) rfl (Nat.le_of_ble_eq_true rfl) dX3_end_2 ?_
  exact zs_vret hA B rfl (by decide) (by decide) ⟨rfl, rfl⟩ dX3_end_5
set_option maxHeartbeats 4000000 in
theorem zt_goOver {l : Launch} (hl : l.stackTraces = false) (D : va_G) (dA : Nat → ClassId) (t : zt_D) : zw_Sp l D dA yX3_goOver wsX3_goOver 0 0 0 [.ref 0] (zt_W t) (fun v w => v = none ∧ w = zt_W (t.1, t.2.1, t.2.2.1 + 1, 1)) (fun _ _ => False) := by
  refine zw_start hl (by decide) rfl rfl (Nat.le_of_ble_eq_true rfl) ?_
  intro pr e s m args below meth c ad A hA B
  refine zs_aload_n B dX3_goOver_0 (i := 0) rfl rfl ?_
  refine zs_dup B dX3_goOver_1 rfl ?_
  refine zs_get B fX3_goOver_19 rfl rfl dX3_goOver_2 ?_
  refine zs_iconst (v := 1) B dX3_goOver_5 (by decide) ?_
  refine zs_iadd B dX3_goOver_6 ?_
  refine zs_put B (wX3_goOver_19 rfl rfl) rfl (Nat.le_of_ble_eq_true rfl) dX3_goOver_7 ?_
  refine zs_aload_n B dX3_goOver_10 (i := 0) rfl rfl ?_
  refine zs_iconst (v := 1) B dX3_goOver_11 (by decide) ?_
  refine zs_put B (wX3_goOver_23 rfl rfl) rfl (Nat.le_of_ble_eq_true rfl) dX3_goOver_12 ?_
  exact zs_vret hA B rfl (by decide) (by decide) ⟨rfl, rfl⟩ dX3_goOver_15
set_option maxHeartbeats 4000000 in
theorem zt_goBack {l : Launch} (hl : l.stackTraces = false) (D : va_G) (dA : Nat → ClassId) (t : zt_D) : zw_Sp l D dA yX3_goBack wsX3_goBack 0 0 0 [.ref 0] (zt_W t) (fun v w => v = none ∧ w = zt_W (t.1, t.2.1, t.2.2.1 - 1, 0)) (fun _ _ => False) := by
  refine zw_start hl (by decide) rfl rfl (Nat.le_of_ble_eq_true rfl) ?_
  intro pr e s m args below meth c ad A hA B
  refine zs_aload_n B dX3_goBack_0 (i := 0) rfl rfl ?_
  refine zs_dup B dX3_goBack_1 rfl ?_
  refine zs_get B fX3_goBack_19 rfl rfl dX3_goBack_2 ?_
  refine zs_iconst (v := 1) B dX3_goBack_5 (by decide) ?_
  refine zs_isub B dX3_goBack_6 ?_
  refine zs_put B (wX3_goBack_19 rfl rfl) rfl (Nat.le_of_ble_eq_true rfl) dX3_goBack_7 ?_
  refine zs_aload_n B dX3_goBack_10 (i := 0) rfl rfl ?_
  refine zs_iconst (v := 0) B dX3_goBack_11 (by decide) ?_
  refine zs_put B (wX3_goBack_23 rfl rfl) rfl (Nat.le_of_ble_eq_true rfl) dX3_goBack_12 ?_
  exact zs_vret hA B rfl (by decide) (by decide) ⟨rfl, rfl⟩ dX3_goBack_15
/-! the class Past -/
abbrev zq_D : Type := (Nat → zp_D) × Nat × Nat
def zq_pg (i : Nat) : Nat → Option Nat := va_up (va_up (va_up (va_up (va_up (va_up (va_up (va_up (fun _ => none) 0 (some (i + 2))) 1 (some (i + 9))) 2 (some (i + 16))) 3 (some (i + 23))) 4 (some (i + 30))) 5 (some (i + 37))) 6 (some (i + 44))) 7 (some (i + 51))
def zq_W (i : Nat) (x : zq_D) : List zw_E := .inr (1, [.ref (i + 1), .int (nI x.2.1), .int (nI x.2.2)]) :: .inl (3, 8, .inr (.inr (.inr (.inr (zq_pg i))))) :: (zp_W (i + 2) (x.1 0) ++ (zp_W (i + 9) (x.1 1) ++ (zp_W (i + 16) (x.1 2) ++ (zp_W (i + 23) (x.1 3) ++ (zp_W (i + 30) (x.1 4) ++ (zp_W (i + 37) (x.1 5) ++ (zp_W (i + 44) (x.1 6) ++ zp_W (i + 51) (x.1 7))))))))
def zq_nx (f : Nat) : Nat := if f + 1 < 8 then f + 1 else 0
def zq_pv (f : Nat) : Nat := if 0 < f then f - 1 else 7
def zp_ok (g : zp_D) : Prop := narrow .char (.int g.2.2.2) = .int g.2.2.2 ∧ fits .char (.int g.2.2.2) = true
set_option maxHeartbeats 4000000 in
theorem zq_kept {l : Launch} (hl : l.stackTraces = false) (D : va_G) (dA : Nat → ClassId) (x : zq_D) : zw_Sp l D dA yX1_kept wsX1_kept 0 0 0 [.ref 0] (zq_W 0 x) (fun v w => v = some (.int (nI x.2.2)) ∧ w = zq_W 0 x) (fun _ _ => False) := by
  refine zw_start hl (by decide) rfl rfl (Nat.le_of_ble_eq_true rfl) ?_
  intro pr e s m args below meth c ad A hA B
  refine zs_aload_n B dX1_kept_0 (i := 0) rfl rfl ?_
  refine zs_get B fX1_kept_22 rfl rfl dX1_kept_1 ?_
  exact zs_zret hA B rfl rfl (by decide) (by decide) ⟨rfl, rfl⟩ dX1_kept_4
theorem zw_back_app : ∀ (is1 is2 : List Nat) (es1 es2 W : List zw_E), is1.length = es1.length → zw_back W (is1 ++ is2) (es1 ++ es2) = zw_back (zw_back W is2 es2) is1 es1
  | [], is2, [], es2, W, _ => rfl
  | [], _, _ :: _, _, _, h => by cases h
  | _ :: _, _, [], _, _, h => by cases h
  | i :: is1, is2, e :: es1, es2, W, h => by
    show (zw_back W (is1 ++ is2) (es1 ++ es2)).set i e = (zw_back (zw_back W is2 es2) is1 es1).set i e
    rw [zw_back_app is1 is2 es1 es2 W (Nat.succ.inj h)]
theorem zw_back_id : ∀ (is : List Nat) (es W : List zw_E), is.map (fun i => W[i]?) = es.map some → zw_back W is es = W
  | [], _, _, _ => rfl
  | _ :: _, [], _, _ => rfl
  | i :: is, e :: es, W, h => by
    obtain ⟨h1, h2⟩ := List.cons.inj h
    show (zw_back W is es).set i e = W
    rw [zw_back_id is es W h2]
    obtain ⟨hl, he⟩ := List.getElem?_eq_some_iff.mp h1
    rw [← he, List.set_getElem_self]
theorem zw_back_blk : ∀ (Y Y' X1 X2 : List zw_E), Y.length = Y'.length → zw_back (X1 ++ (Y ++ X2)) (List.range' X1.length Y'.length) Y' = X1 ++ (Y' ++ X2)
  | [], [], X1, X2, _ => rfl
  | [], _ :: _, _, _, h => by cases h
  | _ :: _, [], _, _, h => by cases h
  | y :: Y, y' :: Y', X1, X2, h => by
    show (zw_back (X1 ++ (y :: Y ++ X2)) (List.range' (X1.length + 1) Y'.length) Y').set X1.length y' = _
    have ih := zw_back_blk Y Y' (X1 ++ [y]) X2 (Nat.succ.inj h)
    rw [List.length_append, show [y].length = 1 from rfl, List.append_assoc, List.singleton_append, List.append_assoc, List.singleton_append] at ih
    rw [show y :: Y ++ X2 = y :: (Y ++ X2) from rfl, ih, List.set_append_right _ _ (Nat.le_refl _), Nat.sub_self]
    rfl
theorem zw_put1 {X1 Y Y' X2 : List zw_E} {is : List Nat} (h1 : is = List.range' X1.length Y'.length) (h2 : Y.length = Y'.length) : zw_back (X1 ++ (Y ++ X2)) is Y' = X1 ++ (Y' ++ X2) := by
  rw [h1]
  exact zw_back_blk Y Y' X1 X2 h2
theorem zq_up0 (r : Nat → zp_D) (f k : Nat) (g g1 : zp_D) : zw_back (zq_W 0 (r, f, k) ++ zp_W 58 g) [2, 3, 4, 5, 6, 7, 8] (zp_W 2 g1) = zq_W 0 (va_up r 0 g1, f, k) ++ zp_W 58 g := by
  have h := zw_put1 (X1 := .inr (1, [.ref 1, .int (nI f), .int (nI k)]) :: .inl (3, 8, .inr (.inr (.inr (.inr (zq_pg 0))))) :: []) (Y := zp_W 2 (r 0)) (Y' := zp_W 2 g1) (X2 := zp_W 9 (r 1) ++ (zp_W 16 (r 2) ++ (zp_W 23 (r 3) ++ (zp_W 30 (r 4) ++ (zp_W 37 (r 5) ++ (zp_W 44 (r 6) ++ (zp_W 51 (r 7) ++ (zp_W 58 g)))))))) (is := [2, 3, 4, 5, 6, 7, 8]) rfl rfl
  simp only [zq_W, List.cons_append, List.append_assoc, List.nil_append] at h ⊢
  exact h
theorem zq_upk0 (r : Nat → zp_D) (f k : Nat) (g g1 : zp_D) : zw_back (zq_W 0 (r, f, k) ++ zp_W 58 g) [2, 3, 4, 5, 6, 7, 8, 58, 59, 60, 61, 62, 63, 64] ((zp_W 0 g1 ++ zp_W 7 g).map (zw_rE [2, 3, 4, 5, 6, 7, 8, 58, 59, 60, 61, 62, 63, 64])) = zq_W 0 (va_up r 0 g1, f, k) ++ zp_W 58 g := by
  have h1 : (zp_W 0 g1 ++ zp_W 7 g).map (zw_rE [2, 3, 4, 5, 6, 7, 8, 58, 59, 60, 61, 62, 63, 64]) = zp_W 2 g1 ++ zp_W 58 g := rfl
  rw [h1]
  refine (zw_back_app [2, 3, 4, 5, 6, 7, 8] [58, 59, 60, 61, 62, 63, 64] (zp_W 2 g1) (zp_W 58 g) _ rfl).trans ?_
  rw [zw_back_id [58, 59, 60, 61, 62, 63, 64] (zp_W 58 g) _ rfl]
  exact zq_up0 r f k g g1
theorem zq_upb0 (r : Nat → zp_D) (f k : Nat) (g g1 : zp_D) : zw_back (zq_W 0 (r, f, k) ++ zp_W 58 g) [58, 59, 60, 61, 62, 63, 64, 2, 3, 4, 5, 6, 7, 8] ((zp_W 0 g1 ++ zp_W 7 (r 0)).map (zw_rE [58, 59, 60, 61, 62, 63, 64, 2, 3, 4, 5, 6, 7, 8])) = zq_W 0 (r, f, k) ++ zp_W 58 g1 := by
  have h1 : (zp_W 0 g1 ++ zp_W 7 (r 0)).map (zw_rE [58, 59, 60, 61, 62, 63, 64, 2, 3, 4, 5, 6, 7, 8]) = zp_W 58 g1 ++ zp_W 2 (r 0) := rfl
  rw [h1]
  refine (zw_back_app [58, 59, 60, 61, 62, 63, 64] [2, 3, 4, 5, 6, 7, 8] (zp_W 58 g1) (zp_W 2 (r 0)) _ rfl).trans ?_
  rw [zw_back_id [2, 3, 4, 5, 6, 7, 8] (zp_W 2 (r 0)) _ rfl]
  have h := zw_put1 (X1 := zq_W 0 (r, f, k)) (Y := zp_W 58 g) (Y' := zp_W 58 g1) (X2 := []) (is := [58, 59, 60, 61, 62, 63, 64]) rfl rfl
  simp only [List.append_nil] at h
  exact h
theorem zq_up1 (r : Nat → zp_D) (f k : Nat) (g g1 : zp_D) : zw_back (zq_W 0 (r, f, k) ++ zp_W 58 g) [9, 10, 11, 12, 13, 14, 15] (zp_W 9 g1) = zq_W 0 (va_up r 1 g1, f, k) ++ zp_W 58 g := by
  have h := zw_put1 (X1 := .inr (1, [.ref 1, .int (nI f), .int (nI k)]) :: .inl (3, 8, .inr (.inr (.inr (.inr (zq_pg 0))))) :: (zp_W 2 (r 0))) (Y := zp_W 9 (r 1)) (Y' := zp_W 9 g1) (X2 := zp_W 16 (r 2) ++ (zp_W 23 (r 3) ++ (zp_W 30 (r 4) ++ (zp_W 37 (r 5) ++ (zp_W 44 (r 6) ++ (zp_W 51 (r 7) ++ (zp_W 58 g))))))) (is := [9, 10, 11, 12, 13, 14, 15]) rfl rfl
  simp only [zq_W, List.cons_append, List.append_assoc, List.nil_append] at h ⊢
  exact h
theorem zq_upk1 (r : Nat → zp_D) (f k : Nat) (g g1 : zp_D) : zw_back (zq_W 0 (r, f, k) ++ zp_W 58 g) [9, 10, 11, 12, 13, 14, 15, 58, 59, 60, 61, 62, 63, 64] ((zp_W 0 g1 ++ zp_W 7 g).map (zw_rE [9, 10, 11, 12, 13, 14, 15, 58, 59, 60, 61, 62, 63, 64])) = zq_W 0 (va_up r 1 g1, f, k) ++ zp_W 58 g := by
  have h1 : (zp_W 0 g1 ++ zp_W 7 g).map (zw_rE [9, 10, 11, 12, 13, 14, 15, 58, 59, 60, 61, 62, 63, 64]) = zp_W 9 g1 ++ zp_W 58 g := rfl
  rw [h1]
  refine (zw_back_app [9, 10, 11, 12, 13, 14, 15] [58, 59, 60, 61, 62, 63, 64] (zp_W 9 g1) (zp_W 58 g) _ rfl).trans ?_
  rw [zw_back_id [58, 59, 60, 61, 62, 63, 64] (zp_W 58 g) _ rfl]
  exact zq_up1 r f k g g1
theorem zq_upb1 (r : Nat → zp_D) (f k : Nat) (g g1 : zp_D) : zw_back (zq_W 0 (r, f, k) ++ zp_W 58 g) [58, 59, 60, 61, 62, 63, 64, 9, 10, 11, 12, 13, 14, 15] ((zp_W 0 g1 ++ zp_W 7 (r 1)).map (zw_rE [58, 59, 60, 61, 62, 63, 64, 9, 10, 11, 12, 13, 14, 15])) = zq_W 0 (r, f, k) ++ zp_W 58 g1 := by
  have h1 : (zp_W 0 g1 ++ zp_W 7 (r 1)).map (zw_rE [58, 59, 60, 61, 62, 63, 64, 9, 10, 11, 12, 13, 14, 15]) = zp_W 58 g1 ++ zp_W 9 (r 1) := rfl
  rw [h1]
  refine (zw_back_app [58, 59, 60, 61, 62, 63, 64] [9, 10, 11, 12, 13, 14, 15] (zp_W 58 g1) (zp_W 9 (r 1)) _ rfl).trans ?_
  rw [zw_back_id [9, 10, 11, 12, 13, 14, 15] (zp_W 9 (r 1)) _ rfl]
  have h := zw_put1 (X1 := zq_W 0 (r, f, k)) (Y := zp_W 58 g) (Y' := zp_W 58 g1) (X2 := []) (is := [58, 59, 60, 61, 62, 63, 64]) rfl rfl
  simp only [List.append_nil] at h
  exact h
theorem zq_up2 (r : Nat → zp_D) (f k : Nat) (g g1 : zp_D) : zw_back (zq_W 0 (r, f, k) ++ zp_W 58 g) [16, 17, 18, 19, 20, 21, 22] (zp_W 16 g1) = zq_W 0 (va_up r 2 g1, f, k) ++ zp_W 58 g := by
  have h := zw_put1 (X1 := .inr (1, [.ref 1, .int (nI f), .int (nI k)]) :: .inl (3, 8, .inr (.inr (.inr (.inr (zq_pg 0))))) :: (zp_W 2 (r 0) ++ (zp_W 9 (r 1)))) (Y := zp_W 16 (r 2)) (Y' := zp_W 16 g1) (X2 := zp_W 23 (r 3) ++ (zp_W 30 (r 4) ++ (zp_W 37 (r 5) ++ (zp_W 44 (r 6) ++ (zp_W 51 (r 7) ++ (zp_W 58 g)))))) (is := [16, 17, 18, 19, 20, 21, 22]) rfl rfl
  simp only [zq_W, List.cons_append, List.append_assoc, List.nil_append] at h ⊢
  exact h
theorem zq_upk2 (r : Nat → zp_D) (f k : Nat) (g g1 : zp_D) : zw_back (zq_W 0 (r, f, k) ++ zp_W 58 g) [16, 17, 18, 19, 20, 21, 22, 58, 59, 60, 61, 62, 63, 64] ((zp_W 0 g1 ++ zp_W 7 g).map (zw_rE [16, 17, 18, 19, 20, 21, 22, 58, 59, 60, 61, 62, 63, 64])) = zq_W 0 (va_up r 2 g1, f, k) ++ zp_W 58 g := by
  have h1 : (zp_W 0 g1 ++ zp_W 7 g).map (zw_rE [16, 17, 18, 19, 20, 21, 22, 58, 59, 60, 61, 62, 63, 64]) = zp_W 16 g1 ++ zp_W 58 g := rfl
  rw [h1]
  refine (zw_back_app [16, 17, 18, 19, 20, 21, 22] [58, 59, 60, 61, 62, 63, 64] (zp_W 16 g1) (zp_W 58 g) _ rfl).trans ?_
  rw [zw_back_id [58, 59, 60, 61, 62, 63, 64] (zp_W 58 g) _ rfl]
  exact zq_up2 r f k g g1
theorem zq_upb2 (r : Nat → zp_D) (f k : Nat) (g g1 : zp_D) : zw_back (zq_W 0 (r, f, k) ++ zp_W 58 g) [58, 59, 60, 61, 62, 63, 64, 16, 17, 18, 19, 20, 21, 22] ((zp_W 0 g1 ++ zp_W 7 (r 2)).map (zw_rE [58, 59, 60, 61, 62, 63, 64, 16, 17, 18, 19, 20, 21, 22])) = zq_W 0 (r, f, k) ++ zp_W 58 g1 := by
  have h1 : (zp_W 0 g1 ++ zp_W 7 (r 2)).map (zw_rE [58, 59, 60, 61, 62, 63, 64, 16, 17, 18, 19, 20, 21, 22]) = zp_W 58 g1 ++ zp_W 16 (r 2) := rfl
  rw [h1]
  refine (zw_back_app [58, 59, 60, 61, 62, 63, 64] [16, 17, 18, 19, 20, 21, 22] (zp_W 58 g1) (zp_W 16 (r 2)) _ rfl).trans ?_
  rw [zw_back_id [16, 17, 18, 19, 20, 21, 22] (zp_W 16 (r 2)) _ rfl]
  have h := zw_put1 (X1 := zq_W 0 (r, f, k)) (Y := zp_W 58 g) (Y' := zp_W 58 g1) (X2 := []) (is := [58, 59, 60, 61, 62, 63, 64]) rfl rfl
  simp only [List.append_nil] at h
  exact h
theorem zq_up3 (r : Nat → zp_D) (f k : Nat) (g g1 : zp_D) : zw_back (zq_W 0 (r, f, k) ++ zp_W 58 g) [23, 24, 25, 26, 27, 28, 29] (zp_W 23 g1) = zq_W 0 (va_up r 3 g1, f, k) ++ zp_W 58 g := by
  have h := zw_put1 (X1 := .inr (1, [.ref 1, .int (nI f), .int (nI k)]) :: .inl (3, 8, .inr (.inr (.inr (.inr (zq_pg 0))))) :: (zp_W 2 (r 0) ++ (zp_W 9 (r 1) ++ (zp_W 16 (r 2))))) (Y := zp_W 23 (r 3)) (Y' := zp_W 23 g1) (X2 := zp_W 30 (r 4) ++ (zp_W 37 (r 5) ++ (zp_W 44 (r 6) ++ (zp_W 51 (r 7) ++ (zp_W 58 g))))) (is := [23, 24, 25, 26, 27, 28, 29]) rfl rfl
  simp only [zq_W, List.cons_append, List.append_assoc, List.nil_append] at h ⊢
  exact h
theorem zq_upk3 (r : Nat → zp_D) (f k : Nat) (g g1 : zp_D) : zw_back (zq_W 0 (r, f, k) ++ zp_W 58 g) [23, 24, 25, 26, 27, 28, 29, 58, 59, 60, 61, 62, 63, 64] ((zp_W 0 g1 ++ zp_W 7 g).map (zw_rE [23, 24, 25, 26, 27, 28, 29, 58, 59, 60, 61, 62, 63, 64])) = zq_W 0 (va_up r 3 g1, f, k) ++ zp_W 58 g := by
  have h1 : (zp_W 0 g1 ++ zp_W 7 g).map (zw_rE [23, 24, 25, 26, 27, 28, 29, 58, 59, 60, 61, 62, 63, 64]) = zp_W 23 g1 ++ zp_W 58 g := rfl
  rw [h1]
  refine (zw_back_app [23, 24, 25, 26, 27, 28, 29] [58, 59, 60, 61, 62, 63, 64] (zp_W 23 g1) (zp_W 58 g) _ rfl).trans ?_
  rw [zw_back_id [58, 59, 60, 61, 62, 63, 64] (zp_W 58 g) _ rfl]
  exact zq_up3 r f k g g1
theorem zq_upb3 (r : Nat → zp_D) (f k : Nat) (g g1 : zp_D) : zw_back (zq_W 0 (r, f, k) ++ zp_W 58 g) [58, 59, 60, 61, 62, 63, 64, 23, 24, 25, 26, 27, 28, 29] ((zp_W 0 g1 ++ zp_W 7 (r 3)).map (zw_rE [58, 59, 60, 61, 62, 63, 64, 23, 24, 25, 26, 27, 28, 29])) = zq_W 0 (r, f, k) ++ zp_W 58 g1 := by
  have h1 : (zp_W 0 g1 ++ zp_W 7 (r 3)).map (zw_rE [58, 59, 60, 61, 62, 63, 64, 23, 24, 25, 26, 27, 28, 29]) = zp_W 58 g1 ++ zp_W 23 (r 3) := rfl
  rw [h1]
  refine (zw_back_app [58, 59, 60, 61, 62, 63, 64] [23, 24, 25, 26, 27, 28, 29] (zp_W 58 g1) (zp_W 23 (r 3)) _ rfl).trans ?_
  rw [zw_back_id [23, 24, 25, 26, 27, 28, 29] (zp_W 23 (r 3)) _ rfl]
  have h := zw_put1 (X1 := zq_W 0 (r, f, k)) (Y := zp_W 58 g) (Y' := zp_W 58 g1) (X2 := []) (is := [58, 59, 60, 61, 62, 63, 64]) rfl rfl
  simp only [List.append_nil] at h
  exact h
theorem zq_up4 (r : Nat → zp_D) (f k : Nat) (g g1 : zp_D) : zw_back (zq_W 0 (r, f, k) ++ zp_W 58 g) [30, 31, 32, 33, 34, 35, 36] (zp_W 30 g1) = zq_W 0 (va_up r 4 g1, f, k) ++ zp_W 58 g := by
  have h := zw_put1 (X1 := .inr (1, [.ref 1, .int (nI f), .int (nI k)]) :: .inl (3, 8, .inr (.inr (.inr (.inr (zq_pg 0))))) :: (zp_W 2 (r 0) ++ (zp_W 9 (r 1) ++ (zp_W 16 (r 2) ++ (zp_W 23 (r 3)))))) (Y := zp_W 30 (r 4)) (Y' := zp_W 30 g1) (X2 := zp_W 37 (r 5) ++ (zp_W 44 (r 6) ++ (zp_W 51 (r 7) ++ (zp_W 58 g)))) (is := [30, 31, 32, 33, 34, 35, 36]) rfl rfl
  simp only [zq_W, List.cons_append, List.append_assoc, List.nil_append] at h ⊢
  exact h
theorem zq_upk4 (r : Nat → zp_D) (f k : Nat) (g g1 : zp_D) : zw_back (zq_W 0 (r, f, k) ++ zp_W 58 g) [30, 31, 32, 33, 34, 35, 36, 58, 59, 60, 61, 62, 63, 64] ((zp_W 0 g1 ++ zp_W 7 g).map (zw_rE [30, 31, 32, 33, 34, 35, 36, 58, 59, 60, 61, 62, 63, 64])) = zq_W 0 (va_up r 4 g1, f, k) ++ zp_W 58 g := by
  have h1 : (zp_W 0 g1 ++ zp_W 7 g).map (zw_rE [30, 31, 32, 33, 34, 35, 36, 58, 59, 60, 61, 62, 63, 64]) = zp_W 30 g1 ++ zp_W 58 g := rfl
  rw [h1]
  refine (zw_back_app [30, 31, 32, 33, 34, 35, 36] [58, 59, 60, 61, 62, 63, 64] (zp_W 30 g1) (zp_W 58 g) _ rfl).trans ?_
  rw [zw_back_id [58, 59, 60, 61, 62, 63, 64] (zp_W 58 g) _ rfl]
  exact zq_up4 r f k g g1
theorem zq_upb4 (r : Nat → zp_D) (f k : Nat) (g g1 : zp_D) : zw_back (zq_W 0 (r, f, k) ++ zp_W 58 g) [58, 59, 60, 61, 62, 63, 64, 30, 31, 32, 33, 34, 35, 36] ((zp_W 0 g1 ++ zp_W 7 (r 4)).map (zw_rE [58, 59, 60, 61, 62, 63, 64, 30, 31, 32, 33, 34, 35, 36])) = zq_W 0 (r, f, k) ++ zp_W 58 g1 := by
  have h1 : (zp_W 0 g1 ++ zp_W 7 (r 4)).map (zw_rE [58, 59, 60, 61, 62, 63, 64, 30, 31, 32, 33, 34, 35, 36]) = zp_W 58 g1 ++ zp_W 30 (r 4) := rfl
  rw [h1]
  refine (zw_back_app [58, 59, 60, 61, 62, 63, 64] [30, 31, 32, 33, 34, 35, 36] (zp_W 58 g1) (zp_W 30 (r 4)) _ rfl).trans ?_
  rw [zw_back_id [30, 31, 32, 33, 34, 35, 36] (zp_W 30 (r 4)) _ rfl]
  have h := zw_put1 (X1 := zq_W 0 (r, f, k)) (Y := zp_W 58 g) (Y' := zp_W 58 g1) (X2 := []) (is := [58, 59, 60, 61, 62, 63, 64]) rfl rfl
  simp only [List.append_nil] at h
  exact h
theorem zq_up5 (r : Nat → zp_D) (f k : Nat) (g g1 : zp_D) : zw_back (zq_W 0 (r, f, k) ++ zp_W 58 g) [37, 38, 39, 40, 41, 42, 43] (zp_W 37 g1) = zq_W 0 (va_up r 5 g1, f, k) ++ zp_W 58 g := by
  have h := zw_put1 (X1 := .inr (1, [.ref 1, .int (nI f), .int (nI k)]) :: .inl (3, 8, .inr (.inr (.inr (.inr (zq_pg 0))))) :: (zp_W 2 (r 0) ++ (zp_W 9 (r 1) ++ (zp_W 16 (r 2) ++ (zp_W 23 (r 3) ++ (zp_W 30 (r 4))))))) (Y := zp_W 37 (r 5)) (Y' := zp_W 37 g1) (X2 := zp_W 44 (r 6) ++ (zp_W 51 (r 7) ++ (zp_W 58 g))) (is := [37, 38, 39, 40, 41, 42, 43]) rfl rfl
  simp only [zq_W, List.cons_append, List.append_assoc, List.nil_append] at h ⊢
  exact h
theorem zq_upk5 (r : Nat → zp_D) (f k : Nat) (g g1 : zp_D) : zw_back (zq_W 0 (r, f, k) ++ zp_W 58 g) [37, 38, 39, 40, 41, 42, 43, 58, 59, 60, 61, 62, 63, 64] ((zp_W 0 g1 ++ zp_W 7 g).map (zw_rE [37, 38, 39, 40, 41, 42, 43, 58, 59, 60, 61, 62, 63, 64])) = zq_W 0 (va_up r 5 g1, f, k) ++ zp_W 58 g := by
  have h1 : (zp_W 0 g1 ++ zp_W 7 g).map (zw_rE [37, 38, 39, 40, 41, 42, 43, 58, 59, 60, 61, 62, 63, 64]) = zp_W 37 g1 ++ zp_W 58 g := rfl
  rw [h1]
  refine (zw_back_app [37, 38, 39, 40, 41, 42, 43] [58, 59, 60, 61, 62, 63, 64] (zp_W 37 g1) (zp_W 58 g) _ rfl).trans ?_
  rw [zw_back_id [58, 59, 60, 61, 62, 63, 64] (zp_W 58 g) _ rfl]
  exact zq_up5 r f k g g1
theorem zq_upb5 (r : Nat → zp_D) (f k : Nat) (g g1 : zp_D) : zw_back (zq_W 0 (r, f, k) ++ zp_W 58 g) [58, 59, 60, 61, 62, 63, 64, 37, 38, 39, 40, 41, 42, 43] ((zp_W 0 g1 ++ zp_W 7 (r 5)).map (zw_rE [58, 59, 60, 61, 62, 63, 64, 37, 38, 39, 40, 41, 42, 43])) = zq_W 0 (r, f, k) ++ zp_W 58 g1 := by
  have h1 : (zp_W 0 g1 ++ zp_W 7 (r 5)).map (zw_rE [58, 59, 60, 61, 62, 63, 64, 37, 38, 39, 40, 41, 42, 43]) = zp_W 58 g1 ++ zp_W 37 (r 5) := rfl
  rw [h1]
  refine (zw_back_app [58, 59, 60, 61, 62, 63, 64] [37, 38, 39, 40, 41, 42, 43] (zp_W 58 g1) (zp_W 37 (r 5)) _ rfl).trans ?_
  rw [zw_back_id [37, 38, 39, 40, 41, 42, 43] (zp_W 37 (r 5)) _ rfl]
  have h := zw_put1 (X1 := zq_W 0 (r, f, k)) (Y := zp_W 58 g) (Y' := zp_W 58 g1) (X2 := []) (is := [58, 59, 60, 61, 62, 63, 64]) rfl rfl
  simp only [List.append_nil] at h
  exact h
theorem zq_up6 (r : Nat → zp_D) (f k : Nat) (g g1 : zp_D) : zw_back (zq_W 0 (r, f, k) ++ zp_W 58 g) [44, 45, 46, 47, 48, 49, 50] (zp_W 44 g1) = zq_W 0 (va_up r 6 g1, f, k) ++ zp_W 58 g := by
  have h := zw_put1 (X1 := .inr (1, [.ref 1, .int (nI f), .int (nI k)]) :: .inl (3, 8, .inr (.inr (.inr (.inr (zq_pg 0))))) :: (zp_W 2 (r 0) ++ (zp_W 9 (r 1) ++ (zp_W 16 (r 2) ++ (zp_W 23 (r 3) ++ (zp_W 30 (r 4) ++ (zp_W 37 (r 5)))))))) (Y := zp_W 44 (r 6)) (Y' := zp_W 44 g1) (X2 := zp_W 51 (r 7) ++ (zp_W 58 g)) (is := [44, 45, 46, 47, 48, 49, 50]) rfl rfl
  simp only [zq_W, List.cons_append, List.append_assoc, List.nil_append] at h ⊢
  exact h
theorem zq_upk6 (r : Nat → zp_D) (f k : Nat) (g g1 : zp_D) : zw_back (zq_W 0 (r, f, k) ++ zp_W 58 g) [44, 45, 46, 47, 48, 49, 50, 58, 59, 60, 61, 62, 63, 64] ((zp_W 0 g1 ++ zp_W 7 g).map (zw_rE [44, 45, 46, 47, 48, 49, 50, 58, 59, 60, 61, 62, 63, 64])) = zq_W 0 (va_up r 6 g1, f, k) ++ zp_W 58 g := by
  have h1 : (zp_W 0 g1 ++ zp_W 7 g).map (zw_rE [44, 45, 46, 47, 48, 49, 50, 58, 59, 60, 61, 62, 63, 64]) = zp_W 44 g1 ++ zp_W 58 g := rfl
  rw [h1]
  refine (zw_back_app [44, 45, 46, 47, 48, 49, 50] [58, 59, 60, 61, 62, 63, 64] (zp_W 44 g1) (zp_W 58 g) _ rfl).trans ?_
  rw [zw_back_id [58, 59, 60, 61, 62, 63, 64] (zp_W 58 g) _ rfl]
  exact zq_up6 r f k g g1
theorem zq_upb6 (r : Nat → zp_D) (f k : Nat) (g g1 : zp_D) : zw_back (zq_W 0 (r, f, k) ++ zp_W 58 g) [58, 59, 60, 61, 62, 63, 64, 44, 45, 46, 47, 48, 49, 50] ((zp_W 0 g1 ++ zp_W 7 (r 6)).map (zw_rE [58, 59, 60, 61, 62, 63, 64, 44, 45, 46, 47, 48, 49, 50])) = zq_W 0 (r, f, k) ++ zp_W 58 g1 := by
  have h1 : (zp_W 0 g1 ++ zp_W 7 (r 6)).map (zw_rE [58, 59, 60, 61, 62, 63, 64, 44, 45, 46, 47, 48, 49, 50]) = zp_W 58 g1 ++ zp_W 44 (r 6) := rfl
  rw [h1]
  refine (zw_back_app [58, 59, 60, 61, 62, 63, 64] [44, 45, 46, 47, 48, 49, 50] (zp_W 58 g1) (zp_W 44 (r 6)) _ rfl).trans ?_
  rw [zw_back_id [44, 45, 46, 47, 48, 49, 50] (zp_W 44 (r 6)) _ rfl]
  have h := zw_put1 (X1 := zq_W 0 (r, f, k)) (Y := zp_W 58 g) (Y' := zp_W 58 g1) (X2 := []) (is := [58, 59, 60, 61, 62, 63, 64]) rfl rfl
  simp only [List.append_nil] at h
  exact h
theorem zq_up7 (r : Nat → zp_D) (f k : Nat) (g g1 : zp_D) : zw_back (zq_W 0 (r, f, k) ++ zp_W 58 g) [51, 52, 53, 54, 55, 56, 57] (zp_W 51 g1) = zq_W 0 (va_up r 7 g1, f, k) ++ zp_W 58 g := by
  have h := zw_put1 (X1 := .inr (1, [.ref 1, .int (nI f), .int (nI k)]) :: .inl (3, 8, .inr (.inr (.inr (.inr (zq_pg 0))))) :: (zp_W 2 (r 0) ++ (zp_W 9 (r 1) ++ (zp_W 16 (r 2) ++ (zp_W 23 (r 3) ++ (zp_W 30 (r 4) ++ (zp_W 37 (r 5) ++ (zp_W 44 (r 6))))))))) (Y := zp_W 51 (r 7)) (Y' := zp_W 51 g1) (X2 := zp_W 58 g) (is := [51, 52, 53, 54, 55, 56, 57]) rfl rfl
  simp only [zq_W, List.cons_append, List.append_assoc, List.nil_append] at h ⊢
  exact h
theorem zq_upk7 (r : Nat → zp_D) (f k : Nat) (g g1 : zp_D) : zw_back (zq_W 0 (r, f, k) ++ zp_W 58 g) [51, 52, 53, 54, 55, 56, 57, 58, 59, 60, 61, 62, 63, 64] ((zp_W 0 g1 ++ zp_W 7 g).map (zw_rE [51, 52, 53, 54, 55, 56, 57, 58, 59, 60, 61, 62, 63, 64])) = zq_W 0 (va_up r 7 g1, f, k) ++ zp_W 58 g := by
  have h1 : (zp_W 0 g1 ++ zp_W 7 g).map (zw_rE [51, 52, 53, 54, 55, 56, 57, 58, 59, 60, 61, 62, 63, 64]) = zp_W 51 g1 ++ zp_W 58 g := rfl
  rw [h1]
  refine (zw_back_app [51, 52, 53, 54, 55, 56, 57] [58, 59, 60, 61, 62, 63, 64] (zp_W 51 g1) (zp_W 58 g) _ rfl).trans ?_
  rw [zw_back_id [58, 59, 60, 61, 62, 63, 64] (zp_W 58 g) _ rfl]
  exact zq_up7 r f k g g1
theorem zq_upb7 (r : Nat → zp_D) (f k : Nat) (g g1 : zp_D) : zw_back (zq_W 0 (r, f, k) ++ zp_W 58 g) [58, 59, 60, 61, 62, 63, 64, 51, 52, 53, 54, 55, 56, 57] ((zp_W 0 g1 ++ zp_W 7 (r 7)).map (zw_rE [58, 59, 60, 61, 62, 63, 64, 51, 52, 53, 54, 55, 56, 57])) = zq_W 0 (r, f, k) ++ zp_W 58 g1 := by
  have h1 : (zp_W 0 g1 ++ zp_W 7 (r 7)).map (zw_rE [58, 59, 60, 61, 62, 63, 64, 51, 52, 53, 54, 55, 56, 57]) = zp_W 58 g1 ++ zp_W 51 (r 7) := rfl
  rw [h1]
  refine (zw_back_app [58, 59, 60, 61, 62, 63, 64] [51, 52, 53, 54, 55, 56, 57] (zp_W 58 g1) (zp_W 51 (r 7)) _ rfl).trans ?_
  rw [zw_back_id [51, 52, 53, 54, 55, 56, 57] (zp_W 51 (r 7)) _ rfl]
  have h := zw_put1 (X1 := zq_W 0 (r, f, k)) (Y := zp_W 58 g) (Y' := zp_W 58 g1) (X2 := []) (is := [58, 59, 60, 61, 62, 63, 64]) rfl rfl
  simp only [List.append_nil] at h
  exact h
set_option maxHeartbeats 4000000 in
theorem zq_keep {l : Launch} (hl : l.stackTraces = false) (D : va_G) (dA : Nat → ClassId) (r : Nat → zp_D) (f k : Nat) (hf : f < 8) (hk : k ≤ 8) (g : zp_D) (S : zp_L) (hR : zp_R S g) (hg : zp_ok g) : zw_Sp l D dA yX1_keep wsX1_keep 4 0 0 [.ref 0, .ref 58] (zq_W 0 (r, f, k) ++ zp_W 58 g) (fun v w => v = none ∧ ∃ g', zp_R S g' ∧ w = zq_W 0 (va_up r f g', zq_nx f, min (k + 1) 8) ++ zp_W 58 g) (fun _ _ => False) := by
  refine zw_start hl (by decide) rfl rfl (Nat.le_of_ble_eq_true rfl) ?_
  intro pr e s m args below meth c ad A hA B
  refine zs_aload_n B dX1_keep_0 (i := 0) rfl rfl ?_
  refine zs_get B fX1_keep_18 rfl rfl dX1_keep_1 ?_
  refine zs_if_lt (tgt := 19) B dX1_keep_4 (by decide) (fun h => absurd h (nI_pos (n := f) (by omega))) (fun _ => ?_)
  refine zs_aload_n B dX1_keep_7 (i := 0) rfl rfl ?_
  refine zs_get B fX1_keep_18 rfl rfl dX1_keep_8 ?_
  refine zs_aload_n B dX1_keep_11 (i := 0) rfl rfl ?_
  refine zs_get B fX1_keep_11 rfl rfl dX1_keep_12 ?_
  refine zs_alen (v := 8) B rfl (by decide) (by decide) dX1_keep_15 ?_
  refine zs_icmp_lt (tgt := 20) B dX1_keep_16 (by decide) (fun _ => ?_) (fun h => absurd (show nI f < nI 8 from nI_lt hf (by omega)) h)
  refine zs_aload_n B dX1_keep_20 (i := 0) rfl rfl ?_
  refine zs_get B fX1_keep_11 rfl rfl dX1_keep_21 ?_
  refine zs_aload_n B dX1_keep_24 (i := 0) rfl rfl ?_
  refine zs_get B fX1_keep_18 rfl rfl dX1_keep_25 ?_
  have e1 : (if f + 1 < 8 then nI (f + 1) else 0) = nI (zq_nx f) := by
    unfold zq_nx
    split
    · rfl
    · exact nI_0.symm
  have e2 : (if (8 : Int32) < nI (k + 1) then 8 else nI (k + 1)) = nI (min (k + 1) 8) := by
    by_cases h : k + 1 ≤ 8
    · rw [if_neg (show ¬ (8 : Int32) < nI (k + 1) from nI_nlt (b := k + 1) (a := 8) h (by omega)), Nat.min_eq_left h]
    · rw [if_pos (show (8 : Int32) < nI (k + 1) from nI_lt (a := 8) (b := k + 1) (by omega) (by omega)), Nat.min_eq_right (by omega)]
      rfl
  rcases (show f = 0 ∨ f = 1 ∨ f = 2 ∨ f = 3 ∨ f = 4 ∨ f = 5 ∨ f = 6 ∨ f = 7 by omega) with rfl | rfl | rfl | rfl | rfl | rfl | rfl | rfl
  · refine zs_aal B 0 rfl (Or.inl rfl) (by decide) (by decide) rfl (r := 2) (by rfl) dX1_keep_28 ?_
    refine zs_aload_n B dX1_keep_29 (i := 1) rfl rfl ?_
    refine zs_callV (n := 1) [2, 3, 4, 5, 6, 7, 8, 58, 59, 60, 61, 62, 63, 64] B (zp_become hl D dA (r 0) g S hR hg) gX1_keep_X0_become rfl ⟨rfl, by decide, by decide, by decide +kernel⟩ rfl (by rfl) rfl rfl rfl (by rfl) ⟨(by exact Nat.le_of_ble_eq_true rfl), (by exact Nat.le_of_ble_eq_true rfl)⟩ (by exact Nat.le_of_ble_eq_true rfl) ⟨(by exact Nat.le_of_ble_eq_true rfl), (by exact Nat.le_of_ble_eq_true rfl)⟩ dX1_keep_30 (by rintro v w ⟨rfl, d9, h9, rfl⟩; rfl) (fun _ _ h => h.elim) (fun _ _ h => h.elim) ?_
    rintro v w ⟨rfl, g1, hg1, rfl⟩
    refine zs_eq (wl' := zq_W 0 (va_up r 0 g1, 0, k) ++ zp_W 58 g) (st' := []) (zq_upk0 r 0 k g g1) rfl rfl rfl ?_
    refine zs_aload_n B dX1_keep_33 (i := 0) rfl rfl ?_
    refine zs_aload_n B dX1_keep_34 (i := 0) rfl rfl ?_
    refine zs_get B fX1_keep_18 rfl rfl dX1_keep_35 ?_
    refine zs_iconst (v := 1) B dX1_keep_38 (by decide) ?_
    refine zs_iadd B dX1_keep_39 ?_
    refine zs_aload_n B dX1_keep_40 (i := 0) rfl rfl ?_
    refine zs_get B fX1_keep_11 rfl rfl dX1_keep_41 ?_
    refine zs_alen (v := 8) B rfl (by decide) (by decide) dX1_keep_44 ?_
    refine zs_icmp_ge (tgt := 57) B dX1_keep_45 (by decide) (fun h => absurd h (show ¬ (8 : Int32) ≤ nI 0 + 1 by decide +kernel)) (fun _ => ?_)
    refine zs_aload_n B dX1_keep_48 (i := 0) rfl rfl ?_
    refine zs_get B fX1_keep_18 rfl rfl dX1_keep_49 ?_
    refine zs_iconst (v := 1) B dX1_keep_52 (by decide) ?_
    refine zs_iadd B dX1_keep_53 ?_
    rw [nI_1]
    refine zs_goto (tgt := 58) B dX1_keep_54 (by decide) ?_
    refine zs_put B (wX1_keep_18 rfl rfl) rfl (Nat.le_of_ble_eq_true rfl) dX1_keep_58 ?_
    refine zs_aload_n B dX1_keep_61 (i := 0) rfl rfl ?_
    refine zs_aload_n B dX1_keep_62 (i := 0) rfl rfl ?_
    refine zs_get B fX1_keep_22 rfl rfl dX1_keep_63 ?_
    refine zs_iconst (v := 1) B dX1_keep_66 (by decide) ?_
    refine zs_iadd B dX1_keep_67 ?_
    refine zs_aload_n B dX1_keep_68 (i := 0) rfl rfl ?_
    refine zs_get B fX1_keep_11 rfl rfl dX1_keep_69 ?_
    refine zs_alen (v := 8) B rfl (by decide) (by decide) dX1_keep_72 ?_
    refine zs_mmin B (by decide +kernel) (by decide +kernel) (by decide +kernel) (by decide +kernel) (Nat.le_of_ble_eq_true rfl) (Nat.le_of_ble_eq_true rfl) (Nat.le_of_ble_eq_true rfl) (Nat.le_refl _) (Nat.le_refl _) dX1_keep_73 ?_
    rw [nI_1, e2]
    refine zs_put B (wX1_keep_22 rfl rfl) rfl (Nat.le_of_ble_eq_true rfl) dX1_keep_76 ?_
    exact zs_vret hA B rfl (by decide) (by decide) ⟨rfl, g1, hg1, by rw [show zq_nx 0 = 1 from rfl]; rfl⟩ dX1_keep_79
  · refine zs_aal B 1 rfl (Or.inl rfl) (by decide) (by decide) rfl (r := 9) (by rfl) dX1_keep_28 ?_
    refine zs_aload_n B dX1_keep_29 (i := 1) rfl rfl ?_
    refine zs_callV (n := 1) [9, 10, 11, 12, 13, 14, 15, 58, 59, 60, 61, 62, 63, 64] B (zp_become hl D dA (r 1) g S hR hg) gX1_keep_X0_become rfl ⟨rfl, by decide, by decide, by decide +kernel⟩ rfl (by rfl) rfl rfl rfl (by rfl) ⟨(by exact Nat.le_of_ble_eq_true rfl), (by exact Nat.le_of_ble_eq_true rfl)⟩ (by exact Nat.le_of_ble_eq_true rfl) ⟨(by exact Nat.le_of_ble_eq_true rfl), (by exact Nat.le_of_ble_eq_true rfl)⟩ dX1_keep_30 (by rintro v w ⟨rfl, d9, h9, rfl⟩; rfl) (fun _ _ h => h.elim) (fun _ _ h => h.elim) ?_
    rintro v w ⟨rfl, g1, hg1, rfl⟩
    refine zs_eq (wl' := zq_W 0 (va_up r 1 g1, 1, k) ++ zp_W 58 g) (st' := []) (zq_upk1 r 1 k g g1) rfl rfl rfl ?_
    refine zs_aload_n B dX1_keep_33 (i := 0) rfl rfl ?_
    refine zs_aload_n B dX1_keep_34 (i := 0) rfl rfl ?_
    refine zs_get B fX1_keep_18 rfl rfl dX1_keep_35 ?_
    refine zs_iconst (v := 1) B dX1_keep_38 (by decide) ?_
    refine zs_iadd B dX1_keep_39 ?_
    refine zs_aload_n B dX1_keep_40 (i := 0) rfl rfl ?_
    refine zs_get B fX1_keep_11 rfl rfl dX1_keep_41 ?_
    refine zs_alen (v := 8) B rfl (by decide) (by decide) dX1_keep_44 ?_
    refine zs_icmp_ge (tgt := 57) B dX1_keep_45 (by decide) (fun h => absurd h (show ¬ (8 : Int32) ≤ nI 1 + 1 by decide +kernel)) (fun _ => ?_)
    refine zs_aload_n B dX1_keep_48 (i := 0) rfl rfl ?_
    refine zs_get B fX1_keep_18 rfl rfl dX1_keep_49 ?_
    refine zs_iconst (v := 1) B dX1_keep_52 (by decide) ?_
    refine zs_iadd B dX1_keep_53 ?_
    rw [nI_1]
    refine zs_goto (tgt := 58) B dX1_keep_54 (by decide) ?_
    refine zs_put B (wX1_keep_18 rfl rfl) rfl (Nat.le_of_ble_eq_true rfl) dX1_keep_58 ?_
    refine zs_aload_n B dX1_keep_61 (i := 0) rfl rfl ?_
    refine zs_aload_n B dX1_keep_62 (i := 0) rfl rfl ?_
    refine zs_get B fX1_keep_22 rfl rfl dX1_keep_63 ?_
    refine zs_iconst (v := 1) B dX1_keep_66 (by decide) ?_
    refine zs_iadd B dX1_keep_67 ?_
    refine zs_aload_n B dX1_keep_68 (i := 0) rfl rfl ?_
    refine zs_get B fX1_keep_11 rfl rfl dX1_keep_69 ?_
    refine zs_alen (v := 8) B rfl (by decide) (by decide) dX1_keep_72 ?_
    refine zs_mmin B (by decide +kernel) (by decide +kernel) (by decide +kernel) (by decide +kernel) (Nat.le_of_ble_eq_true rfl) (Nat.le_of_ble_eq_true rfl) (Nat.le_of_ble_eq_true rfl) (Nat.le_refl _) (Nat.le_refl _) dX1_keep_73 ?_
    rw [nI_1, e2]
    refine zs_put B (wX1_keep_22 rfl rfl) rfl (Nat.le_of_ble_eq_true rfl) dX1_keep_76 ?_
    exact zs_vret hA B rfl (by decide) (by decide) ⟨rfl, g1, hg1, by rw [show zq_nx 1 = 2 from rfl]; rfl⟩ dX1_keep_79
  · refine zs_aal B 2 rfl (Or.inl rfl) (by decide) (by decide) rfl (r := 16) (by rfl) dX1_keep_28 ?_
    refine zs_aload_n B dX1_keep_29 (i := 1) rfl rfl ?_
    refine zs_callV (n := 1) [16, 17, 18, 19, 20, 21, 22, 58, 59, 60, 61, 62, 63, 64] B (zp_become hl D dA (r 2) g S hR hg) gX1_keep_X0_become rfl ⟨rfl, by decide, by decide, by decide +kernel⟩ rfl (by rfl) rfl rfl rfl (by rfl) ⟨(by exact Nat.le_of_ble_eq_true rfl), (by exact Nat.le_of_ble_eq_true rfl)⟩ (by exact Nat.le_of_ble_eq_true rfl) ⟨(by exact Nat.le_of_ble_eq_true rfl), (by exact Nat.le_of_ble_eq_true rfl)⟩ dX1_keep_30 (by rintro v w ⟨rfl, d9, h9, rfl⟩; rfl) (fun _ _ h => h.elim) (fun _ _ h => h.elim) ?_
    rintro v w ⟨rfl, g1, hg1, rfl⟩
    refine zs_eq (wl' := zq_W 0 (va_up r 2 g1, 2, k) ++ zp_W 58 g) (st' := []) (zq_upk2 r 2 k g g1) rfl rfl rfl ?_
    refine zs_aload_n B dX1_keep_33 (i := 0) rfl rfl ?_
    refine zs_aload_n B dX1_keep_34 (i := 0) rfl rfl ?_
    refine zs_get B fX1_keep_18 rfl rfl dX1_keep_35 ?_
    refine zs_iconst (v := 1) B dX1_keep_38 (by decide) ?_
    refine zs_iadd B dX1_keep_39 ?_
    refine zs_aload_n B dX1_keep_40 (i := 0) rfl rfl ?_
    refine zs_get B fX1_keep_11 rfl rfl dX1_keep_41 ?_
    refine zs_alen (v := 8) B rfl (by decide) (by decide) dX1_keep_44 ?_
    refine zs_icmp_ge (tgt := 57) B dX1_keep_45 (by decide) (fun h => absurd h (show ¬ (8 : Int32) ≤ nI 2 + 1 by decide +kernel)) (fun _ => ?_)
    refine zs_aload_n B dX1_keep_48 (i := 0) rfl rfl ?_
    refine zs_get B fX1_keep_18 rfl rfl dX1_keep_49 ?_
    refine zs_iconst (v := 1) B dX1_keep_52 (by decide) ?_
    refine zs_iadd B dX1_keep_53 ?_
    rw [nI_1]
    refine zs_goto (tgt := 58) B dX1_keep_54 (by decide) ?_
    refine zs_put B (wX1_keep_18 rfl rfl) rfl (Nat.le_of_ble_eq_true rfl) dX1_keep_58 ?_
    refine zs_aload_n B dX1_keep_61 (i := 0) rfl rfl ?_
    refine zs_aload_n B dX1_keep_62 (i := 0) rfl rfl ?_
    refine zs_get B fX1_keep_22 rfl rfl dX1_keep_63 ?_
    refine zs_iconst (v := 1) B dX1_keep_66 (by decide) ?_
    refine zs_iadd B dX1_keep_67 ?_
    refine zs_aload_n B dX1_keep_68 (i := 0) rfl rfl ?_
    refine zs_get B fX1_keep_11 rfl rfl dX1_keep_69 ?_
    refine zs_alen (v := 8) B rfl (by decide) (by decide) dX1_keep_72 ?_
    refine zs_mmin B (by decide +kernel) (by decide +kernel) (by decide +kernel) (by decide +kernel) (Nat.le_of_ble_eq_true rfl) (Nat.le_of_ble_eq_true rfl) (Nat.le_of_ble_eq_true rfl) (Nat.le_refl _) (Nat.le_refl _) dX1_keep_73 ?_
    rw [nI_1, e2]
    refine zs_put B (wX1_keep_22 rfl rfl) rfl (Nat.le_of_ble_eq_true rfl) dX1_keep_76 ?_
    exact zs_vret hA B rfl (by decide) (by decide) ⟨rfl, g1, hg1, by rw [show zq_nx 2 = 3 from rfl]; rfl⟩ dX1_keep_79
  · refine zs_aal B 3 rfl (Or.inl rfl) (by decide) (by decide) rfl (r := 23) (by rfl) dX1_keep_28 ?_
    refine zs_aload_n B dX1_keep_29 (i := 1) rfl rfl ?_
    refine zs_callV (n := 1) [23, 24, 25, 26, 27, 28, 29, 58, 59, 60, 61, 62, 63, 64] B (zp_become hl D dA (r 3) g S hR hg) gX1_keep_X0_become rfl ⟨rfl, by decide, by decide, by decide +kernel⟩ rfl (by rfl) rfl rfl rfl (by rfl) ⟨(by exact Nat.le_of_ble_eq_true rfl), (by exact Nat.le_of_ble_eq_true rfl)⟩ (by exact Nat.le_of_ble_eq_true rfl) ⟨(by exact Nat.le_of_ble_eq_true rfl), (by exact Nat.le_of_ble_eq_true rfl)⟩ dX1_keep_30 (by rintro v w ⟨rfl, d9, h9, rfl⟩; rfl) (fun _ _ h => h.elim) (fun _ _ h => h.elim) ?_
    rintro v w ⟨rfl, g1, hg1, rfl⟩
    refine zs_eq (wl' := zq_W 0 (va_up r 3 g1, 3, k) ++ zp_W 58 g) (st' := []) (zq_upk3 r 3 k g g1) rfl rfl rfl ?_
    refine zs_aload_n B dX1_keep_33 (i := 0) rfl rfl ?_
    refine zs_aload_n B dX1_keep_34 (i := 0) rfl rfl ?_
    refine zs_get B fX1_keep_18 rfl rfl dX1_keep_35 ?_
    refine zs_iconst (v := 1) B dX1_keep_38 (by decide) ?_
    refine zs_iadd B dX1_keep_39 ?_
    refine zs_aload_n B dX1_keep_40 (i := 0) rfl rfl ?_
    refine zs_get B fX1_keep_11 rfl rfl dX1_keep_41 ?_
    refine zs_alen (v := 8) B rfl (by decide) (by decide) dX1_keep_44 ?_
    refine zs_icmp_ge (tgt := 57) B dX1_keep_45 (by decide) (fun h => absurd h (show ¬ (8 : Int32) ≤ nI 3 + 1 by decide +kernel)) (fun _ => ?_)
    refine zs_aload_n B dX1_keep_48 (i := 0) rfl rfl ?_
    refine zs_get B fX1_keep_18 rfl rfl dX1_keep_49 ?_
    refine zs_iconst (v := 1) B dX1_keep_52 (by decide) ?_
    refine zs_iadd B dX1_keep_53 ?_
    rw [nI_1]
    refine zs_goto (tgt := 58) B dX1_keep_54 (by decide) ?_
    refine zs_put B (wX1_keep_18 rfl rfl) rfl (Nat.le_of_ble_eq_true rfl) dX1_keep_58 ?_
    refine zs_aload_n B dX1_keep_61 (i := 0) rfl rfl ?_
    refine zs_aload_n B dX1_keep_62 (i := 0) rfl rfl ?_
    refine zs_get B fX1_keep_22 rfl rfl dX1_keep_63 ?_
    refine zs_iconst (v := 1) B dX1_keep_66 (by decide) ?_
    refine zs_iadd B dX1_keep_67 ?_
    refine zs_aload_n B dX1_keep_68 (i := 0) rfl rfl ?_
    refine zs_get B fX1_keep_11 rfl rfl dX1_keep_69 ?_
    refine zs_alen (v := 8) B rfl (by decide) (by decide) dX1_keep_72 ?_
    refine zs_mmin B (by decide +kernel) (by decide +kernel) (by decide +kernel) (by decide +kernel) (Nat.le_of_ble_eq_true rfl) (Nat.le_of_ble_eq_true rfl) (Nat.le_of_ble_eq_true rfl) (Nat.le_refl _) (Nat.le_refl _) dX1_keep_73 ?_
    rw [nI_1, e2]
    refine zs_put B (wX1_keep_22 rfl rfl) rfl (Nat.le_of_ble_eq_true rfl) dX1_keep_76 ?_
    exact zs_vret hA B rfl (by decide) (by decide) ⟨rfl, g1, hg1, by rw [show zq_nx 3 = 4 from rfl]; rfl⟩ dX1_keep_79
  · refine zs_aal B 4 rfl (Or.inl rfl) (by decide) (by decide) rfl (r := 30) (by rfl) dX1_keep_28 ?_
    refine zs_aload_n B dX1_keep_29 (i := 1) rfl rfl ?_
    refine zs_callV (n := 1) [30, 31, 32, 33, 34, 35, 36, 58, 59, 60, 61, 62, 63, 64] B (zp_become hl D dA (r 4) g S hR hg) gX1_keep_X0_become rfl ⟨rfl, by decide, by decide, by decide +kernel⟩ rfl (by rfl) rfl rfl rfl (by rfl) ⟨(by exact Nat.le_of_ble_eq_true rfl), (by exact Nat.le_of_ble_eq_true rfl)⟩ (by exact Nat.le_of_ble_eq_true rfl) ⟨(by exact Nat.le_of_ble_eq_true rfl), (by exact Nat.le_of_ble_eq_true rfl)⟩ dX1_keep_30 (by rintro v w ⟨rfl, d9, h9, rfl⟩; rfl) (fun _ _ h => h.elim) (fun _ _ h => h.elim) ?_
    rintro v w ⟨rfl, g1, hg1, rfl⟩
    refine zs_eq (wl' := zq_W 0 (va_up r 4 g1, 4, k) ++ zp_W 58 g) (st' := []) (zq_upk4 r 4 k g g1) rfl rfl rfl ?_
    refine zs_aload_n B dX1_keep_33 (i := 0) rfl rfl ?_
    refine zs_aload_n B dX1_keep_34 (i := 0) rfl rfl ?_
    refine zs_get B fX1_keep_18 rfl rfl dX1_keep_35 ?_
    refine zs_iconst (v := 1) B dX1_keep_38 (by decide) ?_
    refine zs_iadd B dX1_keep_39 ?_
    refine zs_aload_n B dX1_keep_40 (i := 0) rfl rfl ?_
    refine zs_get B fX1_keep_11 rfl rfl dX1_keep_41 ?_
    refine zs_alen (v := 8) B rfl (by decide) (by decide) dX1_keep_44 ?_
    refine zs_icmp_ge (tgt := 57) B dX1_keep_45 (by decide) (fun h => absurd h (show ¬ (8 : Int32) ≤ nI 4 + 1 by decide +kernel)) (fun _ => ?_)
    refine zs_aload_n B dX1_keep_48 (i := 0) rfl rfl ?_
    refine zs_get B fX1_keep_18 rfl rfl dX1_keep_49 ?_
    refine zs_iconst (v := 1) B dX1_keep_52 (by decide) ?_
    refine zs_iadd B dX1_keep_53 ?_
    rw [nI_1]
    refine zs_goto (tgt := 58) B dX1_keep_54 (by decide) ?_
    refine zs_put B (wX1_keep_18 rfl rfl) rfl (Nat.le_of_ble_eq_true rfl) dX1_keep_58 ?_
    refine zs_aload_n B dX1_keep_61 (i := 0) rfl rfl ?_
    refine zs_aload_n B dX1_keep_62 (i := 0) rfl rfl ?_
    refine zs_get B fX1_keep_22 rfl rfl dX1_keep_63 ?_
    refine zs_iconst (v := 1) B dX1_keep_66 (by decide) ?_
    refine zs_iadd B dX1_keep_67 ?_
    refine zs_aload_n B dX1_keep_68 (i := 0) rfl rfl ?_
    refine zs_get B fX1_keep_11 rfl rfl dX1_keep_69 ?_
    refine zs_alen (v := 8) B rfl (by decide) (by decide) dX1_keep_72 ?_
    refine zs_mmin B (by decide +kernel) (by decide +kernel) (by decide +kernel) (by decide +kernel) (Nat.le_of_ble_eq_true rfl) (Nat.le_of_ble_eq_true rfl) (Nat.le_of_ble_eq_true rfl) (Nat.le_refl _) (Nat.le_refl _) dX1_keep_73 ?_
    rw [nI_1, e2]
    refine zs_put B (wX1_keep_22 rfl rfl) rfl (Nat.le_of_ble_eq_true rfl) dX1_keep_76 ?_
    exact zs_vret hA B rfl (by decide) (by decide) ⟨rfl, g1, hg1, by rw [show zq_nx 4 = 5 from rfl]; rfl⟩ dX1_keep_79
  · refine zs_aal B 5 rfl (Or.inl rfl) (by decide) (by decide) rfl (r := 37) (by rfl) dX1_keep_28 ?_
    refine zs_aload_n B dX1_keep_29 (i := 1) rfl rfl ?_
    refine zs_callV (n := 1) [37, 38, 39, 40, 41, 42, 43, 58, 59, 60, 61, 62, 63, 64] B (zp_become hl D dA (r 5) g S hR hg) gX1_keep_X0_become rfl ⟨rfl, by decide, by decide, by decide +kernel⟩ rfl (by rfl) rfl rfl rfl (by rfl) ⟨(by exact Nat.le_of_ble_eq_true rfl), (by exact Nat.le_of_ble_eq_true rfl)⟩ (by exact Nat.le_of_ble_eq_true rfl) ⟨(by exact Nat.le_of_ble_eq_true rfl), (by exact Nat.le_of_ble_eq_true rfl)⟩ dX1_keep_30 (by rintro v w ⟨rfl, d9, h9, rfl⟩; rfl) (fun _ _ h => h.elim) (fun _ _ h => h.elim) ?_
    rintro v w ⟨rfl, g1, hg1, rfl⟩
    refine zs_eq (wl' := zq_W 0 (va_up r 5 g1, 5, k) ++ zp_W 58 g) (st' := []) (zq_upk5 r 5 k g g1) rfl rfl rfl ?_
    refine zs_aload_n B dX1_keep_33 (i := 0) rfl rfl ?_
    refine zs_aload_n B dX1_keep_34 (i := 0) rfl rfl ?_
    refine zs_get B fX1_keep_18 rfl rfl dX1_keep_35 ?_
    refine zs_iconst (v := 1) B dX1_keep_38 (by decide) ?_
    refine zs_iadd B dX1_keep_39 ?_
    refine zs_aload_n B dX1_keep_40 (i := 0) rfl rfl ?_
    refine zs_get B fX1_keep_11 rfl rfl dX1_keep_41 ?_
    refine zs_alen (v := 8) B rfl (by decide) (by decide) dX1_keep_44 ?_
    refine zs_icmp_ge (tgt := 57) B dX1_keep_45 (by decide) (fun h => absurd h (show ¬ (8 : Int32) ≤ nI 5 + 1 by decide +kernel)) (fun _ => ?_)
    refine zs_aload_n B dX1_keep_48 (i := 0) rfl rfl ?_
    refine zs_get B fX1_keep_18 rfl rfl dX1_keep_49 ?_
    refine zs_iconst (v := 1) B dX1_keep_52 (by decide) ?_
    refine zs_iadd B dX1_keep_53 ?_
    rw [nI_1]
    refine zs_goto (tgt := 58) B dX1_keep_54 (by decide) ?_
    refine zs_put B (wX1_keep_18 rfl rfl) rfl (Nat.le_of_ble_eq_true rfl) dX1_keep_58 ?_
    refine zs_aload_n B dX1_keep_61 (i := 0) rfl rfl ?_
    refine zs_aload_n B dX1_keep_62 (i := 0) rfl rfl ?_
    refine zs_get B fX1_keep_22 rfl rfl dX1_keep_63 ?_
    refine zs_iconst (v := 1) B dX1_keep_66 (by decide) ?_
    refine zs_iadd B dX1_keep_67 ?_
    refine zs_aload_n B dX1_keep_68 (i := 0) rfl rfl ?_
    refine zs_get B fX1_keep_11 rfl rfl dX1_keep_69 ?_
    refine zs_alen (v := 8) B rfl (by decide) (by decide) dX1_keep_72 ?_
    refine zs_mmin B (by decide +kernel) (by decide +kernel) (by decide +kernel) (by decide +kernel) (Nat.le_of_ble_eq_true rfl) (Nat.le_of_ble_eq_true rfl) (Nat.le_of_ble_eq_true rfl) (Nat.le_refl _) (Nat.le_refl _) dX1_keep_73 ?_
    rw [nI_1, e2]
    refine zs_put B (wX1_keep_22 rfl rfl) rfl (Nat.le_of_ble_eq_true rfl) dX1_keep_76 ?_
    exact zs_vret hA B rfl (by decide) (by decide) ⟨rfl, g1, hg1, by rw [show zq_nx 5 = 6 from rfl]; rfl⟩ dX1_keep_79
  · refine zs_aal B 6 rfl (Or.inl rfl) (by decide) (by decide) rfl (r := 44) (by rfl) dX1_keep_28 ?_
    refine zs_aload_n B dX1_keep_29 (i := 1) rfl rfl ?_
    refine zs_callV (n := 1) [44, 45, 46, 47, 48, 49, 50, 58, 59, 60, 61, 62, 63, 64] B (zp_become hl D dA (r 6) g S hR hg) gX1_keep_X0_become rfl ⟨rfl, by decide, by decide, by decide +kernel⟩ rfl (by rfl) rfl rfl rfl (by rfl) ⟨(by exact Nat.le_of_ble_eq_true rfl), (by exact Nat.le_of_ble_eq_true rfl)⟩ (by exact Nat.le_of_ble_eq_true rfl) ⟨(by exact Nat.le_of_ble_eq_true rfl), (by exact Nat.le_of_ble_eq_true rfl)⟩ dX1_keep_30 (by rintro v w ⟨rfl, d9, h9, rfl⟩; rfl) (fun _ _ h => h.elim) (fun _ _ h => h.elim) ?_
    rintro v w ⟨rfl, g1, hg1, rfl⟩
    refine zs_eq (wl' := zq_W 0 (va_up r 6 g1, 6, k) ++ zp_W 58 g) (st' := []) (zq_upk6 r 6 k g g1) rfl rfl rfl ?_
    refine zs_aload_n B dX1_keep_33 (i := 0) rfl rfl ?_
    refine zs_aload_n B dX1_keep_34 (i := 0) rfl rfl ?_
    refine zs_get B fX1_keep_18 rfl rfl dX1_keep_35 ?_
    refine zs_iconst (v := 1) B dX1_keep_38 (by decide) ?_
    refine zs_iadd B dX1_keep_39 ?_
    refine zs_aload_n B dX1_keep_40 (i := 0) rfl rfl ?_
    refine zs_get B fX1_keep_11 rfl rfl dX1_keep_41 ?_
    refine zs_alen (v := 8) B rfl (by decide) (by decide) dX1_keep_44 ?_
    refine zs_icmp_ge (tgt := 57) B dX1_keep_45 (by decide) (fun h => absurd h (show ¬ (8 : Int32) ≤ nI 6 + 1 by decide +kernel)) (fun _ => ?_)
    refine zs_aload_n B dX1_keep_48 (i := 0) rfl rfl ?_
    refine zs_get B fX1_keep_18 rfl rfl dX1_keep_49 ?_
    refine zs_iconst (v := 1) B dX1_keep_52 (by decide) ?_
    refine zs_iadd B dX1_keep_53 ?_
    rw [nI_1]
    refine zs_goto (tgt := 58) B dX1_keep_54 (by decide) ?_
    refine zs_put B (wX1_keep_18 rfl rfl) rfl (Nat.le_of_ble_eq_true rfl) dX1_keep_58 ?_
    refine zs_aload_n B dX1_keep_61 (i := 0) rfl rfl ?_
    refine zs_aload_n B dX1_keep_62 (i := 0) rfl rfl ?_
    refine zs_get B fX1_keep_22 rfl rfl dX1_keep_63 ?_
    refine zs_iconst (v := 1) B dX1_keep_66 (by decide) ?_
    refine zs_iadd B dX1_keep_67 ?_
    refine zs_aload_n B dX1_keep_68 (i := 0) rfl rfl ?_
    refine zs_get B fX1_keep_11 rfl rfl dX1_keep_69 ?_
    refine zs_alen (v := 8) B rfl (by decide) (by decide) dX1_keep_72 ?_
    refine zs_mmin B (by decide +kernel) (by decide +kernel) (by decide +kernel) (by decide +kernel) (Nat.le_of_ble_eq_true rfl) (Nat.le_of_ble_eq_true rfl) (Nat.le_of_ble_eq_true rfl) (Nat.le_refl _) (Nat.le_refl _) dX1_keep_73 ?_
    rw [nI_1, e2]
    refine zs_put B (wX1_keep_22 rfl rfl) rfl (Nat.le_of_ble_eq_true rfl) dX1_keep_76 ?_
    exact zs_vret hA B rfl (by decide) (by decide) ⟨rfl, g1, hg1, by rw [show zq_nx 6 = 7 from rfl]; rfl⟩ dX1_keep_79
  · refine zs_aal B 7 rfl (Or.inl rfl) (by decide) (by decide) rfl (r := 51) (by rfl) dX1_keep_28 ?_
    refine zs_aload_n B dX1_keep_29 (i := 1) rfl rfl ?_
    refine zs_callV (n := 1) [51, 52, 53, 54, 55, 56, 57, 58, 59, 60, 61, 62, 63, 64] B (zp_become hl D dA (r 7) g S hR hg) gX1_keep_X0_become rfl ⟨rfl, by decide, by decide, by decide +kernel⟩ rfl (by rfl) rfl rfl rfl (by rfl) ⟨(by exact Nat.le_of_ble_eq_true rfl), (by exact Nat.le_of_ble_eq_true rfl)⟩ (by exact Nat.le_of_ble_eq_true rfl) ⟨(by exact Nat.le_of_ble_eq_true rfl), (by exact Nat.le_of_ble_eq_true rfl)⟩ dX1_keep_30 (by rintro v w ⟨rfl, d9, h9, rfl⟩; rfl) (fun _ _ h => h.elim) (fun _ _ h => h.elim) ?_
    rintro v w ⟨rfl, g1, hg1, rfl⟩
    refine zs_eq (wl' := zq_W 0 (va_up r 7 g1, 7, k) ++ zp_W 58 g) (st' := []) (zq_upk7 r 7 k g g1) rfl rfl rfl ?_
    refine zs_aload_n B dX1_keep_33 (i := 0) rfl rfl ?_
    refine zs_aload_n B dX1_keep_34 (i := 0) rfl rfl ?_
    refine zs_get B fX1_keep_18 rfl rfl dX1_keep_35 ?_
    refine zs_iconst (v := 1) B dX1_keep_38 (by decide) ?_
    refine zs_iadd B dX1_keep_39 ?_
    refine zs_aload_n B dX1_keep_40 (i := 0) rfl rfl ?_
    refine zs_get B fX1_keep_11 rfl rfl dX1_keep_41 ?_
    refine zs_alen (v := 8) B rfl (by decide) (by decide) dX1_keep_44 ?_
    refine zs_icmp_ge (tgt := 57) B dX1_keep_45 (by decide) (fun _ => ?_) (fun h => absurd (show (8 : Int32) ≤ nI 7 + 1 by decide +kernel) h)
    refine zs_iconst (v := 0) B dX1_keep_57 (by decide) ?_
    rw [← nI_0]
    refine zs_put B (wX1_keep_18 rfl rfl) rfl (Nat.le_of_ble_eq_true rfl) dX1_keep_58 ?_
    refine zs_aload_n B dX1_keep_61 (i := 0) rfl rfl ?_
    refine zs_aload_n B dX1_keep_62 (i := 0) rfl rfl ?_
    refine zs_get B fX1_keep_22 rfl rfl dX1_keep_63 ?_
    refine zs_iconst (v := 1) B dX1_keep_66 (by decide) ?_
    refine zs_iadd B dX1_keep_67 ?_
    refine zs_aload_n B dX1_keep_68 (i := 0) rfl rfl ?_
    refine zs_get B fX1_keep_11 rfl rfl dX1_keep_69 ?_
    refine zs_alen (v := 8) B rfl (by decide) (by decide) dX1_keep_72 ?_
    refine zs_mmin B (by decide +kernel) (by decide +kernel) (by decide +kernel) (by decide +kernel) (Nat.le_of_ble_eq_true rfl) (Nat.le_of_ble_eq_true rfl) (Nat.le_of_ble_eq_true rfl) (Nat.le_refl _) (Nat.le_refl _) dX1_keep_73 ?_
    rw [nI_1, e2]
    refine zs_put B (wX1_keep_22 rfl rfl) rfl (Nat.le_of_ble_eq_true rfl) dX1_keep_76 ?_
    exact zs_vret hA B rfl (by decide) (by decide) ⟨rfl, g1, hg1, by rw [show zq_nx 7 = 0 from rfl]; rfl⟩ dX1_keep_79
set_option maxHeartbeats 4000000 in
theorem zq_bringBack {l : Launch} (hl : l.stackTraces = false) (D : va_G) (dA : Nat → ClassId) (r : Nat → zp_D) (f k : Nat) (hf : f < 8) (hk0 : 0 < k) (hk : k ≤ 8) (g : zp_D) (S : zp_L) (hR : zp_R S (r (zq_pv f))) (hg : zp_ok (r (zq_pv f))) : zw_Sp l D dA yX1_bringBack wsX1_bringBack 4 0 0 [.ref 0, .ref 58] (zq_W 0 (r, f, k) ++ zp_W 58 g) (fun v w => v = none ∧ ∃ g', zp_R S g' ∧ w = zq_W 0 (r, zq_pv f, k - 1) ++ zp_W 58 g') (fun _ _ => False) := by
  refine zw_start hl (by decide) rfl rfl (Nat.le_of_ble_eq_true rfl) ?_
  intro pr e s m args below meth c ad A hA B
  have hk1 : nI k - 1 = nI (k - 1) := by
    obtain ⟨z, rfl⟩ : ∃ z, k = z + 1 := ⟨k - 1, by omega⟩
    exact nI_pred z
  rcases (show f = 0 ∨ f = 1 ∨ f = 2 ∨ f = 3 ∨ f = 4 ∨ f = 5 ∨ f = 6 ∨ f = 7 by omega) with rfl | rfl | rfl | rfl | rfl | rfl | rfl | rfl
  · refine zs_aload_n B dX1_bringBack_0 (i := 0) rfl rfl ?_
    refine zs_get B fX1_bringBack_18 rfl rfl dX1_bringBack_1 ?_
    refine zs_if_le (tgt := 16) B dX1_bringBack_4 (by decide) (fun _ => ?_) (fun h => absurd (show nI 0 ≤ 0 by decide +kernel) h)
    refine zs_aload_n B dX1_bringBack_16 (i := 0) rfl rfl ?_
    refine zs_get B fX1_bringBack_11 rfl rfl dX1_bringBack_17 ?_
    refine zs_alen (v := 8) B rfl (by decide) (by decide) dX1_bringBack_20 ?_
    refine zs_iconst (v := 1) B dX1_bringBack_21 (by decide) ?_
    refine zs_isub B dX1_bringBack_22 ?_
    rw [show (8 : Int32) - 1 = nI 7 by decide +kernel]
    refine zs_istore_n B dX1_bringBack_23 (i := 2) rfl (by decide) rfl ?_
    refine zs_aload_n B dX1_bringBack_24 (i := 0) rfl rfl ?_
    refine zs_get B fX1_bringBack_22 rfl rfl dX1_bringBack_25 ?_
    refine zs_if_eq (tgt := 44) B dX1_bringBack_28 (by decide) (fun h => absurd h (nI_ne0 (n := k) hk0 (by omega))) (fun _ => ?_)
    refine zs_iload_n B dX1_bringBack_31 (i := 2) rfl rfl ?_
    refine zs_if_lt (tgt := 44) B dX1_bringBack_32 (by decide) (fun h => absurd h (show ¬ nI 7 < 0 by decide +kernel)) (fun _ => ?_)
    refine zs_iload_n B dX1_bringBack_35 (i := 2) rfl rfl ?_
    refine zs_aload_n B dX1_bringBack_36 (i := 0) rfl rfl ?_
    refine zs_get B fX1_bringBack_11 rfl rfl dX1_bringBack_37 ?_
    refine zs_alen (v := 8) B rfl (by decide) (by decide) dX1_bringBack_40 ?_
    refine zs_icmp_lt (tgt := 45) B dX1_bringBack_41 (by decide) (fun _ => ?_) (fun h => absurd (show nI 7 < (8 : Int32) by decide +kernel) h)
    refine zs_aload_n B dX1_bringBack_45 (i := 1) rfl rfl ?_
    refine zs_aload_n B dX1_bringBack_46 (i := 0) rfl rfl ?_
    refine zs_get B fX1_bringBack_11 rfl rfl dX1_bringBack_47 ?_
    refine zs_iload_n B dX1_bringBack_50 (i := 2) rfl rfl ?_
    refine zs_aal B 7 rfl (Or.inl rfl) (by decide) (by decide) rfl (r := 51) (by rfl) dX1_bringBack_51 ?_
    refine zs_callV (n := 1) [58, 59, 60, 61, 62, 63, 64, 51, 52, 53, 54, 55, 56, 57] B (zp_become hl D dA g (r 7) S hR hg) gX1_bringBack_X0_become rfl ⟨rfl, by decide, by decide, by decide +kernel⟩ rfl (by rfl) rfl rfl rfl (by rfl) ⟨(by exact Nat.le_of_ble_eq_true rfl), (by exact Nat.le_of_ble_eq_true rfl)⟩ (by exact Nat.le_of_ble_eq_true rfl) ⟨(by exact Nat.le_of_ble_eq_true rfl), (by exact Nat.le_of_ble_eq_true rfl)⟩ dX1_bringBack_52 (by rintro v w ⟨rfl, d9, h9, rfl⟩; rfl) (fun _ _ h => h.elim) (fun _ _ h => h.elim) ?_
    rintro v w ⟨rfl, g1, hg1, rfl⟩
    refine zs_eq (wl' := zq_W 0 (r, 0, k) ++ zp_W 58 g1) (st' := []) (zq_upb7 r 0 k g g1) rfl rfl rfl ?_
    refine zs_aload_n B dX1_bringBack_55 (i := 0) rfl rfl ?_
    refine zs_iload_n B dX1_bringBack_56 (i := 2) rfl rfl ?_
    refine zs_put B (wX1_bringBack_18 rfl rfl) rfl (Nat.le_of_ble_eq_true rfl) dX1_bringBack_57 ?_
    refine zs_aload_n B dX1_bringBack_60 (i := 0) rfl rfl ?_
    refine zs_dup B dX1_bringBack_61 rfl ?_
    refine zs_get B fX1_bringBack_22 rfl rfl dX1_bringBack_62 ?_
    refine zs_iconst (v := 1) B dX1_bringBack_65 (by decide) ?_
    refine zs_isub B dX1_bringBack_66 ?_
    rw [hk1]
    refine zs_put B (wX1_bringBack_22 rfl rfl) rfl (Nat.le_of_ble_eq_true rfl) dX1_bringBack_67 ?_
    exact zs_vret hA B rfl (by decide) (by decide) ⟨rfl, g1, hg1, by rw [show zq_pv 0 = 7 from rfl]; rfl⟩ dX1_bringBack_70
  · refine zs_aload_n B dX1_bringBack_0 (i := 0) rfl rfl ?_
    refine zs_get B fX1_bringBack_18 rfl rfl dX1_bringBack_1 ?_
    refine zs_if_le (tgt := 16) B dX1_bringBack_4 (by decide) (fun h => absurd h (show ¬ nI 1 ≤ 0 by decide +kernel)) (fun _ => ?_)
    refine zs_aload_n B dX1_bringBack_7 (i := 0) rfl rfl ?_
    refine zs_get B fX1_bringBack_18 rfl rfl dX1_bringBack_8 ?_
    refine zs_iconst (v := 1) B dX1_bringBack_11 (by decide) ?_
    refine zs_isub B dX1_bringBack_12 ?_
    rw [show nI 1 - 1 = nI 0 by decide +kernel]
    refine zs_goto (tgt := 23) B dX1_bringBack_13 (by decide) ?_
    refine zs_istore_n B dX1_bringBack_23 (i := 2) rfl (by decide) rfl ?_
    refine zs_aload_n B dX1_bringBack_24 (i := 0) rfl rfl ?_
    refine zs_get B fX1_bringBack_22 rfl rfl dX1_bringBack_25 ?_
    refine zs_if_eq (tgt := 44) B dX1_bringBack_28 (by decide) (fun h => absurd h (nI_ne0 (n := k) hk0 (by omega))) (fun _ => ?_)
    refine zs_iload_n B dX1_bringBack_31 (i := 2) rfl rfl ?_
    refine zs_if_lt (tgt := 44) B dX1_bringBack_32 (by decide) (fun h => absurd h (show ¬ nI 0 < 0 by decide +kernel)) (fun _ => ?_)
    refine zs_iload_n B dX1_bringBack_35 (i := 2) rfl rfl ?_
    refine zs_aload_n B dX1_bringBack_36 (i := 0) rfl rfl ?_
    refine zs_get B fX1_bringBack_11 rfl rfl dX1_bringBack_37 ?_
    refine zs_alen (v := 8) B rfl (by decide) (by decide) dX1_bringBack_40 ?_
    refine zs_icmp_lt (tgt := 45) B dX1_bringBack_41 (by decide) (fun _ => ?_) (fun h => absurd (show nI 0 < (8 : Int32) by decide +kernel) h)
    refine zs_aload_n B dX1_bringBack_45 (i := 1) rfl rfl ?_
    refine zs_aload_n B dX1_bringBack_46 (i := 0) rfl rfl ?_
    refine zs_get B fX1_bringBack_11 rfl rfl dX1_bringBack_47 ?_
    refine zs_iload_n B dX1_bringBack_50 (i := 2) rfl rfl ?_
    refine zs_aal B 0 rfl (Or.inl rfl) (by decide) (by decide) rfl (r := 2) (by rfl) dX1_bringBack_51 ?_
    refine zs_callV (n := 1) [58, 59, 60, 61, 62, 63, 64, 2, 3, 4, 5, 6, 7, 8] B (zp_become hl D dA g (r 0) S hR hg) gX1_bringBack_X0_become rfl ⟨rfl, by decide, by decide, by decide +kernel⟩ rfl (by rfl) rfl rfl rfl (by rfl) ⟨(by exact Nat.le_of_ble_eq_true rfl), (by exact Nat.le_of_ble_eq_true rfl)⟩ (by exact Nat.le_of_ble_eq_true rfl) ⟨(by exact Nat.le_of_ble_eq_true rfl), (by exact Nat.le_of_ble_eq_true rfl)⟩ dX1_bringBack_52 (by rintro v w ⟨rfl, d9, h9, rfl⟩; rfl) (fun _ _ h => h.elim) (fun _ _ h => h.elim) ?_
    rintro v w ⟨rfl, g1, hg1, rfl⟩
    refine zs_eq (wl' := zq_W 0 (r, 1, k) ++ zp_W 58 g1) (st' := []) (zq_upb0 r 1 k g g1) rfl rfl rfl ?_
    refine zs_aload_n B dX1_bringBack_55 (i := 0) rfl rfl ?_
    refine zs_iload_n B dX1_bringBack_56 (i := 2) rfl rfl ?_
    refine zs_put B (wX1_bringBack_18 rfl rfl) rfl (Nat.le_of_ble_eq_true rfl) dX1_bringBack_57 ?_
    refine zs_aload_n B dX1_bringBack_60 (i := 0) rfl rfl ?_
    refine zs_dup B dX1_bringBack_61 rfl ?_
    refine zs_get B fX1_bringBack_22 rfl rfl dX1_bringBack_62 ?_
    refine zs_iconst (v := 1) B dX1_bringBack_65 (by decide) ?_
    refine zs_isub B dX1_bringBack_66 ?_
    rw [hk1]
    refine zs_put B (wX1_bringBack_22 rfl rfl) rfl (Nat.le_of_ble_eq_true rfl) dX1_bringBack_67 ?_
    exact zs_vret hA B rfl (by decide) (by decide) ⟨rfl, g1, hg1, by rw [show zq_pv 1 = 0 from rfl]; rfl⟩ dX1_bringBack_70
  · refine zs_aload_n B dX1_bringBack_0 (i := 0) rfl rfl ?_
    refine zs_get B fX1_bringBack_18 rfl rfl dX1_bringBack_1 ?_
    refine zs_if_le (tgt := 16) B dX1_bringBack_4 (by decide) (fun h => absurd h (show ¬ nI 2 ≤ 0 by decide +kernel)) (fun _ => ?_)
    refine zs_aload_n B dX1_bringBack_7 (i := 0) rfl rfl ?_
    refine zs_get B fX1_bringBack_18 rfl rfl dX1_bringBack_8 ?_
    refine zs_iconst (v := 1) B dX1_bringBack_11 (by decide) ?_
    refine zs_isub B dX1_bringBack_12 ?_
    rw [show nI 2 - 1 = nI 1 by decide +kernel]
    refine zs_goto (tgt := 23) B dX1_bringBack_13 (by decide) ?_
    refine zs_istore_n B dX1_bringBack_23 (i := 2) rfl (by decide) rfl ?_
    refine zs_aload_n B dX1_bringBack_24 (i := 0) rfl rfl ?_
    refine zs_get B fX1_bringBack_22 rfl rfl dX1_bringBack_25 ?_
    refine zs_if_eq (tgt := 44) B dX1_bringBack_28 (by decide) (fun h => absurd h (nI_ne0 (n := k) hk0 (by omega))) (fun _ => ?_)
    refine zs_iload_n B dX1_bringBack_31 (i := 2) rfl rfl ?_
    refine zs_if_lt (tgt := 44) B dX1_bringBack_32 (by decide) (fun h => absurd h (show ¬ nI 1 < 0 by decide +kernel)) (fun _ => ?_)
    refine zs_iload_n B dX1_bringBack_35 (i := 2) rfl rfl ?_
    refine zs_aload_n B dX1_bringBack_36 (i := 0) rfl rfl ?_
    refine zs_get B fX1_bringBack_11 rfl rfl dX1_bringBack_37 ?_
    refine zs_alen (v := 8) B rfl (by decide) (by decide) dX1_bringBack_40 ?_
    refine zs_icmp_lt (tgt := 45) B dX1_bringBack_41 (by decide) (fun _ => ?_) (fun h => absurd (show nI 1 < (8 : Int32) by decide +kernel) h)
    refine zs_aload_n B dX1_bringBack_45 (i := 1) rfl rfl ?_
    refine zs_aload_n B dX1_bringBack_46 (i := 0) rfl rfl ?_
    refine zs_get B fX1_bringBack_11 rfl rfl dX1_bringBack_47 ?_
    refine zs_iload_n B dX1_bringBack_50 (i := 2) rfl rfl ?_
    refine zs_aal B 1 rfl (Or.inl rfl) (by decide) (by decide) rfl (r := 9) (by rfl) dX1_bringBack_51 ?_
    refine zs_callV (n := 1) [58, 59, 60, 61, 62, 63, 64, 9, 10, 11, 12, 13, 14, 15] B (zp_become hl D dA g (r 1) S hR hg) gX1_bringBack_X0_become rfl ⟨rfl, by decide, by decide, by decide +kernel⟩ rfl (by rfl) rfl rfl rfl (by rfl) ⟨(by exact Nat.le_of_ble_eq_true rfl), (by exact Nat.le_of_ble_eq_true rfl)⟩ (by exact Nat.le_of_ble_eq_true rfl) ⟨(by exact Nat.le_of_ble_eq_true rfl), (by exact Nat.le_of_ble_eq_true rfl)⟩ dX1_bringBack_52 (by rintro v w ⟨rfl, d9, h9, rfl⟩; rfl) (fun _ _ h => h.elim) (fun _ _ h => h.elim) ?_
    rintro v w ⟨rfl, g1, hg1, rfl⟩
    refine zs_eq (wl' := zq_W 0 (r, 2, k) ++ zp_W 58 g1) (st' := []) (zq_upb1 r 2 k g g1) rfl rfl rfl ?_
    refine zs_aload_n B dX1_bringBack_55 (i := 0) rfl rfl ?_
    refine zs_iload_n B dX1_bringBack_56 (i := 2) rfl rfl ?_
    refine zs_put B (wX1_bringBack_18 rfl rfl) rfl (Nat.le_of_ble_eq_true rfl) dX1_bringBack_57 ?_
    refine zs_aload_n B dX1_bringBack_60 (i := 0) rfl rfl ?_
    refine zs_dup B dX1_bringBack_61 rfl ?_
    refine zs_get B fX1_bringBack_22 rfl rfl dX1_bringBack_62 ?_
    refine zs_iconst (v := 1) B dX1_bringBack_65 (by decide) ?_
    refine zs_isub B dX1_bringBack_66 ?_
    rw [hk1]
    refine zs_put B (wX1_bringBack_22 rfl rfl) rfl (Nat.le_of_ble_eq_true rfl) dX1_bringBack_67 ?_
    exact zs_vret hA B rfl (by decide) (by decide) ⟨rfl, g1, hg1, by rw [show zq_pv 2 = 1 from rfl]; rfl⟩ dX1_bringBack_70
  · refine zs_aload_n B dX1_bringBack_0 (i := 0) rfl rfl ?_
    refine zs_get B fX1_bringBack_18 rfl rfl dX1_bringBack_1 ?_
    refine zs_if_le (tgt := 16) B dX1_bringBack_4 (by decide) (fun h => absurd h (show ¬ nI 3 ≤ 0 by decide +kernel)) (fun _ => ?_)
    refine zs_aload_n B dX1_bringBack_7 (i := 0) rfl rfl ?_
    refine zs_get B fX1_bringBack_18 rfl rfl dX1_bringBack_8 ?_
    refine zs_iconst (v := 1) B dX1_bringBack_11 (by decide) ?_
    refine zs_isub B dX1_bringBack_12 ?_
    rw [show nI 3 - 1 = nI 2 by decide +kernel]
    refine zs_goto (tgt := 23) B dX1_bringBack_13 (by decide) ?_
    refine zs_istore_n B dX1_bringBack_23 (i := 2) rfl (by decide) rfl ?_
    refine zs_aload_n B dX1_bringBack_24 (i := 0) rfl rfl ?_
    refine zs_get B fX1_bringBack_22 rfl rfl dX1_bringBack_25 ?_
    refine zs_if_eq (tgt := 44) B dX1_bringBack_28 (by decide) (fun h => absurd h (nI_ne0 (n := k) hk0 (by omega))) (fun _ => ?_)
    refine zs_iload_n B dX1_bringBack_31 (i := 2) rfl rfl ?_
    refine zs_if_lt (tgt := 44) B dX1_bringBack_32 (by decide) (fun h => absurd h (show ¬ nI 2 < 0 by decide +kernel)) (fun _ => ?_)
    refine zs_iload_n B dX1_bringBack_35 (i := 2) rfl rfl ?_
    refine zs_aload_n B dX1_bringBack_36 (i := 0) rfl rfl ?_
    refine zs_get B fX1_bringBack_11 rfl rfl dX1_bringBack_37 ?_
    refine zs_alen (v := 8) B rfl (by decide) (by decide) dX1_bringBack_40 ?_
    refine zs_icmp_lt (tgt := 45) B dX1_bringBack_41 (by decide) (fun _ => ?_) (fun h => absurd (show nI 2 < (8 : Int32) by decide +kernel) h)
    refine zs_aload_n B dX1_bringBack_45 (i := 1) rfl rfl ?_
    refine zs_aload_n B dX1_bringBack_46 (i := 0) rfl rfl ?_
    refine zs_get B fX1_bringBack_11 rfl rfl dX1_bringBack_47 ?_
    refine zs_iload_n B dX1_bringBack_50 (i := 2) rfl rfl ?_
    refine zs_aal B 2 rfl (Or.inl rfl) (by decide) (by decide) rfl (r := 16) (by rfl) dX1_bringBack_51 ?_
    refine zs_callV (n := 1) [58, 59, 60, 61, 62, 63, 64, 16, 17, 18, 19, 20, 21, 22] B (zp_become hl D dA g (r 2) S hR hg) gX1_bringBack_X0_become rfl ⟨rfl, by decide, by decide, by decide +kernel⟩ rfl (by rfl) rfl rfl rfl (by rfl) ⟨(by exact Nat.le_of_ble_eq_true rfl), (by exact Nat.le_of_ble_eq_true rfl)⟩ (by exact Nat.le_of_ble_eq_true rfl) ⟨(by exact Nat.le_of_ble_eq_true rfl), (by exact Nat.le_of_ble_eq_true rfl)⟩ dX1_bringBack_52 (by rintro v w ⟨rfl, d9, h9, rfl⟩; rfl) (fun _ _ h => h.elim) (fun _ _ h => h.elim) ?_
    rintro v w ⟨rfl, g1, hg1, rfl⟩
    refine zs_eq (wl' := zq_W 0 (r, 3, k) ++ zp_W 58 g1) (st' := []) (zq_upb2 r 3 k g g1) rfl rfl rfl ?_
    refine zs_aload_n B dX1_bringBack_55 (i := 0) rfl rfl ?_
    refine zs_iload_n B dX1_bringBack_56 (i := 2) rfl rfl ?_
    refine zs_put B (wX1_bringBack_18 rfl rfl) rfl (Nat.le_of_ble_eq_true rfl) dX1_bringBack_57 ?_
    refine zs_aload_n B dX1_bringBack_60 (i := 0) rfl rfl ?_
    refine zs_dup B dX1_bringBack_61 rfl ?_
    refine zs_get B fX1_bringBack_22 rfl rfl dX1_bringBack_62 ?_
    refine zs_iconst (v := 1) B dX1_bringBack_65 (by decide) ?_
    refine zs_isub B dX1_bringBack_66 ?_
    rw [hk1]
    refine zs_put B (wX1_bringBack_22 rfl rfl) rfl (Nat.le_of_ble_eq_true rfl) dX1_bringBack_67 ?_
    exact zs_vret hA B rfl (by decide) (by decide) ⟨rfl, g1, hg1, by rw [show zq_pv 3 = 2 from rfl]; rfl⟩ dX1_bringBack_70
  · refine zs_aload_n B dX1_bringBack_0 (i := 0) rfl rfl ?_
    refine zs_get B fX1_bringBack_18 rfl rfl dX1_bringBack_1 ?_
    refine zs_if_le (tgt := 16) B dX1_bringBack_4 (by decide) (fun h => absurd h (show ¬ nI 4 ≤ 0 by decide +kernel)) (fun _ => ?_)
    refine zs_aload_n B dX1_bringBack_7 (i := 0) rfl rfl ?_
    refine zs_get B fX1_bringBack_18 rfl rfl dX1_bringBack_8 ?_
    refine zs_iconst (v := 1) B dX1_bringBack_11 (by decide) ?_
    refine zs_isub B dX1_bringBack_12 ?_
    rw [show nI 4 - 1 = nI 3 by decide +kernel]
    refine zs_goto (tgt := 23) B dX1_bringBack_13 (by decide) ?_
    refine zs_istore_n B dX1_bringBack_23 (i := 2) rfl (by decide) rfl ?_
    refine zs_aload_n B dX1_bringBack_24 (i := 0) rfl rfl ?_
    refine zs_get B fX1_bringBack_22 rfl rfl dX1_bringBack_25 ?_
    refine zs_if_eq (tgt := 44) B dX1_bringBack_28 (by decide) (fun h => absurd h (nI_ne0 (n := k) hk0 (by omega))) (fun _ => ?_)
    refine zs_iload_n B dX1_bringBack_31 (i := 2) rfl rfl ?_
    refine zs_if_lt (tgt := 44) B dX1_bringBack_32 (by decide) (fun h => absurd h (show ¬ nI 3 < 0 by decide +kernel)) (fun _ => ?_)
    refine zs_iload_n B dX1_bringBack_35 (i := 2) rfl rfl ?_
    refine zs_aload_n B dX1_bringBack_36 (i := 0) rfl rfl ?_
    refine zs_get B fX1_bringBack_11 rfl rfl dX1_bringBack_37 ?_
    refine zs_alen (v := 8) B rfl (by decide) (by decide) dX1_bringBack_40 ?_
    refine zs_icmp_lt (tgt := 45) B dX1_bringBack_41 (by decide) (fun _ => ?_) (fun h => absurd (show nI 3 < (8 : Int32) by decide +kernel) h)
    refine zs_aload_n B dX1_bringBack_45 (i := 1) rfl rfl ?_
    refine zs_aload_n B dX1_bringBack_46 (i := 0) rfl rfl ?_
    refine zs_get B fX1_bringBack_11 rfl rfl dX1_bringBack_47 ?_
    refine zs_iload_n B dX1_bringBack_50 (i := 2) rfl rfl ?_
    refine zs_aal B 3 rfl (Or.inl rfl) (by decide) (by decide) rfl (r := 23) (by rfl) dX1_bringBack_51 ?_
    refine zs_callV (n := 1) [58, 59, 60, 61, 62, 63, 64, 23, 24, 25, 26, 27, 28, 29] B (zp_become hl D dA g (r 3) S hR hg) gX1_bringBack_X0_become rfl ⟨rfl, by decide, by decide, by decide +kernel⟩ rfl (by rfl) rfl rfl rfl (by rfl) ⟨(by exact Nat.le_of_ble_eq_true rfl), (by exact Nat.le_of_ble_eq_true rfl)⟩ (by exact Nat.le_of_ble_eq_true rfl) ⟨(by exact Nat.le_of_ble_eq_true rfl), (by exact Nat.le_of_ble_eq_true rfl)⟩ dX1_bringBack_52 (by rintro v w ⟨rfl, d9, h9, rfl⟩; rfl) (fun _ _ h => h.elim) (fun _ _ h => h.elim) ?_
    rintro v w ⟨rfl, g1, hg1, rfl⟩
    refine zs_eq (wl' := zq_W 0 (r, 4, k) ++ zp_W 58 g1) (st' := []) (zq_upb3 r 4 k g g1) rfl rfl rfl ?_
    refine zs_aload_n B dX1_bringBack_55 (i := 0) rfl rfl ?_
    refine zs_iload_n B dX1_bringBack_56 (i := 2) rfl rfl ?_
    refine zs_put B (wX1_bringBack_18 rfl rfl) rfl (Nat.le_of_ble_eq_true rfl) dX1_bringBack_57 ?_
    refine zs_aload_n B dX1_bringBack_60 (i := 0) rfl rfl ?_
    refine zs_dup B dX1_bringBack_61 rfl ?_
    refine zs_get B fX1_bringBack_22 rfl rfl dX1_bringBack_62 ?_
    refine zs_iconst (v := 1) B dX1_bringBack_65 (by decide) ?_
    refine zs_isub B dX1_bringBack_66 ?_
    rw [hk1]
    refine zs_put B (wX1_bringBack_22 rfl rfl) rfl (Nat.le_of_ble_eq_true rfl) dX1_bringBack_67 ?_
    exact zs_vret hA B rfl (by decide) (by decide) ⟨rfl, g1, hg1, by rw [show zq_pv 4 = 3 from rfl]; rfl⟩ dX1_bringBack_70
  · refine zs_aload_n B dX1_bringBack_0 (i := 0) rfl rfl ?_
    refine zs_get B fX1_bringBack_18 rfl rfl dX1_bringBack_1 ?_
    refine zs_if_le (tgt := 16) B dX1_bringBack_4 (by decide) (fun h => absurd h (show ¬ nI 5 ≤ 0 by decide +kernel)) (fun _ => ?_)
    refine zs_aload_n B dX1_bringBack_7 (i := 0) rfl rfl ?_
    refine zs_get B fX1_bringBack_18 rfl rfl dX1_bringBack_8 ?_
    refine zs_iconst (v := 1) B dX1_bringBack_11 (by decide) ?_
    refine zs_isub B dX1_bringBack_12 ?_
    rw [show nI 5 - 1 = nI 4 by decide +kernel]
    refine zs_goto (tgt := 23) B dX1_bringBack_13 (by decide) ?_
    refine zs_istore_n B dX1_bringBack_23 (i := 2) rfl (by decide) rfl ?_
    refine zs_aload_n B dX1_bringBack_24 (i := 0) rfl rfl ?_
    refine zs_get B fX1_bringBack_22 rfl rfl dX1_bringBack_25 ?_
    refine zs_if_eq (tgt := 44) B dX1_bringBack_28 (by decide) (fun h => absurd h (nI_ne0 (n := k) hk0 (by omega))) (fun _ => ?_)
    refine zs_iload_n B dX1_bringBack_31 (i := 2) rfl rfl ?_
    refine zs_if_lt (tgt := 44) B dX1_bringBack_32 (by decide) (fun h => absurd h (show ¬ nI 4 < 0 by decide +kernel)) (fun _ => ?_)
    refine zs_iload_n B dX1_bringBack_35 (i := 2) rfl rfl ?_
    refine zs_aload_n B dX1_bringBack_36 (i := 0) rfl rfl ?_
    refine zs_get B fX1_bringBack_11 rfl rfl dX1_bringBack_37 ?_
    refine zs_alen (v := 8) B rfl (by decide) (by decide) dX1_bringBack_40 ?_
    refine zs_icmp_lt (tgt := 45) B dX1_bringBack_41 (by decide) (fun _ => ?_) (fun h => absurd (show nI 4 < (8 : Int32) by decide +kernel) h)
    refine zs_aload_n B dX1_bringBack_45 (i := 1) rfl rfl ?_
    refine zs_aload_n B dX1_bringBack_46 (i := 0) rfl rfl ?_
    refine zs_get B fX1_bringBack_11 rfl rfl dX1_bringBack_47 ?_
    refine zs_iload_n B dX1_bringBack_50 (i := 2) rfl rfl ?_
    refine zs_aal B 4 rfl (Or.inl rfl) (by decide) (by decide) rfl (r := 30) (by rfl) dX1_bringBack_51 ?_
    refine zs_callV (n := 1) [58, 59, 60, 61, 62, 63, 64, 30, 31, 32, 33, 34, 35, 36] B (zp_become hl D dA g (r 4) S hR hg) gX1_bringBack_X0_become rfl ⟨rfl, by decide, by decide, by decide +kernel⟩ rfl (by rfl) rfl rfl rfl (by rfl) ⟨(by exact Nat.le_of_ble_eq_true rfl), (by exact Nat.le_of_ble_eq_true rfl)⟩ (by exact Nat.le_of_ble_eq_true rfl) ⟨(by exact Nat.le_of_ble_eq_true rfl), (by exact Nat.le_of_ble_eq_true rfl)⟩ dX1_bringBack_52 (by rintro v w ⟨rfl, d9, h9, rfl⟩; rfl) (fun _ _ h => h.elim) (fun _ _ h => h.elim) ?_
    rintro v w ⟨rfl, g1, hg1, rfl⟩
    refine zs_eq (wl' := zq_W 0 (r, 5, k) ++ zp_W 58 g1) (st' := []) (zq_upb4 r 5 k g g1) rfl rfl rfl ?_
    refine zs_aload_n B dX1_bringBack_55 (i := 0) rfl rfl ?_
    refine zs_iload_n B dX1_bringBack_56 (i := 2) rfl rfl ?_
    refine zs_put B (wX1_bringBack_18 rfl rfl) rfl (Nat.le_of_ble_eq_true rfl) dX1_bringBack_57 ?_
    refine zs_aload_n B dX1_bringBack_60 (i := 0) rfl rfl ?_
    refine zs_dup B dX1_bringBack_61 rfl ?_
    refine zs_get B fX1_bringBack_22 rfl rfl dX1_bringBack_62 ?_
    refine zs_iconst (v := 1) B dX1_bringBack_65 (by decide) ?_
    refine zs_isub B dX1_bringBack_66 ?_
    rw [hk1]
    refine zs_put B (wX1_bringBack_22 rfl rfl) rfl (Nat.le_of_ble_eq_true rfl) dX1_bringBack_67 ?_
    exact zs_vret hA B rfl (by decide) (by decide) ⟨rfl, g1, hg1, by rw [show zq_pv 5 = 4 from rfl]; rfl⟩ dX1_bringBack_70
  · refine zs_aload_n B dX1_bringBack_0 (i := 0) rfl rfl ?_
    refine zs_get B fX1_bringBack_18 rfl rfl dX1_bringBack_1 ?_
    refine zs_if_le (tgt := 16) B dX1_bringBack_4 (by decide) (fun h => absurd h (show ¬ nI 6 ≤ 0 by decide +kernel)) (fun _ => ?_)
    refine zs_aload_n B dX1_bringBack_7 (i := 0) rfl rfl ?_
    refine zs_get B fX1_bringBack_18 rfl rfl dX1_bringBack_8 ?_
    refine zs_iconst (v := 1) B dX1_bringBack_11 (by decide) ?_
    refine zs_isub B dX1_bringBack_12 ?_
    rw [show nI 6 - 1 = nI 5 by decide +kernel]
    refine zs_goto (tgt := 23) B dX1_bringBack_13 (by decide) ?_
    refine zs_istore_n B dX1_bringBack_23 (i := 2) rfl (by decide) rfl ?_
    refine zs_aload_n B dX1_bringBack_24 (i := 0) rfl rfl ?_
    refine zs_get B fX1_bringBack_22 rfl rfl dX1_bringBack_25 ?_
    refine zs_if_eq (tgt := 44) B dX1_bringBack_28 (by decide) (fun h => absurd h (nI_ne0 (n := k) hk0 (by omega))) (fun _ => ?_)
    refine zs_iload_n B dX1_bringBack_31 (i := 2) rfl rfl ?_
    refine zs_if_lt (tgt := 44) B dX1_bringBack_32 (by decide) (fun h => absurd h (show ¬ nI 5 < 0 by decide +kernel)) (fun _ => ?_)
    refine zs_iload_n B dX1_bringBack_35 (i := 2) rfl rfl ?_
    refine zs_aload_n B dX1_bringBack_36 (i := 0) rfl rfl ?_
    refine zs_get B fX1_bringBack_11 rfl rfl dX1_bringBack_37 ?_
    refine zs_alen (v := 8) B rfl (by decide) (by decide) dX1_bringBack_40 ?_
    refine zs_icmp_lt (tgt := 45) B dX1_bringBack_41 (by decide) (fun _ => ?_) (fun h => absurd (show nI 5 < (8 : Int32) by decide +kernel) h)
    refine zs_aload_n B dX1_bringBack_45 (i := 1) rfl rfl ?_
    refine zs_aload_n B dX1_bringBack_46 (i := 0) rfl rfl ?_
    refine zs_get B fX1_bringBack_11 rfl rfl dX1_bringBack_47 ?_
    refine zs_iload_n B dX1_bringBack_50 (i := 2) rfl rfl ?_
    refine zs_aal B 5 rfl (Or.inl rfl) (by decide) (by decide) rfl (r := 37) (by rfl) dX1_bringBack_51 ?_
    refine zs_callV (n := 1) [58, 59, 60, 61, 62, 63, 64, 37, 38, 39, 40, 41, 42, 43] B (zp_become hl D dA g (r 5) S hR hg) gX1_bringBack_X0_become rfl ⟨rfl, by decide, by decide, by decide +kernel⟩ rfl (by rfl) rfl rfl rfl (by rfl) ⟨(by exact Nat.le_of_ble_eq_true rfl), (by exact Nat.le_of_ble_eq_true rfl)⟩ (by exact Nat.le_of_ble_eq_true rfl) ⟨(by exact Nat.le_of_ble_eq_true rfl), (by exact Nat.le_of_ble_eq_true rfl)⟩ dX1_bringBack_52 (by rintro v w ⟨rfl, d9, h9, rfl⟩; rfl) (fun _ _ h => h.elim) (fun _ _ h => h.elim) ?_
    rintro v w ⟨rfl, g1, hg1, rfl⟩
    refine zs_eq (wl' := zq_W 0 (r, 6, k) ++ zp_W 58 g1) (st' := []) (zq_upb5 r 6 k g g1) rfl rfl rfl ?_
    refine zs_aload_n B dX1_bringBack_55 (i := 0) rfl rfl ?_
    refine zs_iload_n B dX1_bringBack_56 (i := 2) rfl rfl ?_
    refine zs_put B (wX1_bringBack_18 rfl rfl) rfl (Nat.le_of_ble_eq_true rfl) dX1_bringBack_57 ?_
    refine zs_aload_n B dX1_bringBack_60 (i := 0) rfl rfl ?_
    refine zs_dup B dX1_bringBack_61 rfl ?_
    refine zs_get B fX1_bringBack_22 rfl rfl dX1_bringBack_62 ?_
    refine zs_iconst (v := 1) B dX1_bringBack_65 (by decide) ?_
    refine zs_isub B dX1_bringBack_66 ?_
    rw [hk1]
    refine zs_put B (wX1_bringBack_22 rfl rfl) rfl (Nat.le_of_ble_eq_true rfl) dX1_bringBack_67 ?_
    exact zs_vret hA B rfl (by decide) (by decide) ⟨rfl, g1, hg1, by rw [show zq_pv 6 = 5 from rfl]; rfl⟩ dX1_bringBack_70
  · refine zs_aload_n B dX1_bringBack_0 (i := 0) rfl rfl ?_
    refine zs_get B fX1_bringBack_18 rfl rfl dX1_bringBack_1 ?_
    refine zs_if_le (tgt := 16) B dX1_bringBack_4 (by decide) (fun h => absurd h (show ¬ nI 7 ≤ 0 by decide +kernel)) (fun _ => ?_)
    refine zs_aload_n B dX1_bringBack_7 (i := 0) rfl rfl ?_
    refine zs_get B fX1_bringBack_18 rfl rfl dX1_bringBack_8 ?_
    refine zs_iconst (v := 1) B dX1_bringBack_11 (by decide) ?_
    refine zs_isub B dX1_bringBack_12 ?_
    rw [show nI 7 - 1 = nI 6 by decide +kernel]
    refine zs_goto (tgt := 23) B dX1_bringBack_13 (by decide) ?_
    refine zs_istore_n B dX1_bringBack_23 (i := 2) rfl (by decide) rfl ?_
    refine zs_aload_n B dX1_bringBack_24 (i := 0) rfl rfl ?_
    refine zs_get B fX1_bringBack_22 rfl rfl dX1_bringBack_25 ?_
    refine zs_if_eq (tgt := 44) B dX1_bringBack_28 (by decide) (fun h => absurd h (nI_ne0 (n := k) hk0 (by omega))) (fun _ => ?_)
    refine zs_iload_n B dX1_bringBack_31 (i := 2) rfl rfl ?_
    refine zs_if_lt (tgt := 44) B dX1_bringBack_32 (by decide) (fun h => absurd h (show ¬ nI 6 < 0 by decide +kernel)) (fun _ => ?_)
    refine zs_iload_n B dX1_bringBack_35 (i := 2) rfl rfl ?_
    refine zs_aload_n B dX1_bringBack_36 (i := 0) rfl rfl ?_
    refine zs_get B fX1_bringBack_11 rfl rfl dX1_bringBack_37 ?_
    refine zs_alen (v := 8) B rfl (by decide) (by decide) dX1_bringBack_40 ?_
    refine zs_icmp_lt (tgt := 45) B dX1_bringBack_41 (by decide) (fun _ => ?_) (fun h => absurd (show nI 6 < (8 : Int32) by decide +kernel) h)
    refine zs_aload_n B dX1_bringBack_45 (i := 1) rfl rfl ?_
    refine zs_aload_n B dX1_bringBack_46 (i := 0) rfl rfl ?_
    refine zs_get B fX1_bringBack_11 rfl rfl dX1_bringBack_47 ?_
    refine zs_iload_n B dX1_bringBack_50 (i := 2) rfl rfl ?_
    refine zs_aal B 6 rfl (Or.inl rfl) (by decide) (by decide) rfl (r := 44) (by rfl) dX1_bringBack_51 ?_
    refine zs_callV (n := 1) [58, 59, 60, 61, 62, 63, 64, 44, 45, 46, 47, 48, 49, 50] B (zp_become hl D dA g (r 6) S hR hg) gX1_bringBack_X0_become rfl ⟨rfl, by decide, by decide, by decide +kernel⟩ rfl (by rfl) rfl rfl rfl (by rfl) ⟨(by exact Nat.le_of_ble_eq_true rfl), (by exact Nat.le_of_ble_eq_true rfl)⟩ (by exact Nat.le_of_ble_eq_true rfl) ⟨(by exact Nat.le_of_ble_eq_true rfl), (by exact Nat.le_of_ble_eq_true rfl)⟩ dX1_bringBack_52 (by rintro v w ⟨rfl, d9, h9, rfl⟩; rfl) (fun _ _ h => h.elim) (fun _ _ h => h.elim) ?_
    rintro v w ⟨rfl, g1, hg1, rfl⟩
    refine zs_eq (wl' := zq_W 0 (r, 7, k) ++ zp_W 58 g1) (st' := []) (zq_upb6 r 7 k g g1) rfl rfl rfl ?_
    refine zs_aload_n B dX1_bringBack_55 (i := 0) rfl rfl ?_
    refine zs_iload_n B dX1_bringBack_56 (i := 2) rfl rfl ?_
    refine zs_put B (wX1_bringBack_18 rfl rfl) rfl (Nat.le_of_ble_eq_true rfl) dX1_bringBack_57 ?_
    refine zs_aload_n B dX1_bringBack_60 (i := 0) rfl rfl ?_
    refine zs_dup B dX1_bringBack_61 rfl ?_
    refine zs_get B fX1_bringBack_22 rfl rfl dX1_bringBack_62 ?_
    refine zs_iconst (v := 1) B dX1_bringBack_65 (by decide) ?_
    refine zs_isub B dX1_bringBack_66 ?_
    rw [hk1]
    refine zs_put B (wX1_bringBack_22 rfl rfl) rfl (Nat.le_of_ble_eq_true rfl) dX1_bringBack_67 ?_
    exact zs_vret hA B rfl (by decide) (by decide) ⟨rfl, g1, hg1, by rw [show zq_pv 7 = 6 from rfl]; rfl⟩ dX1_bringBack_70
