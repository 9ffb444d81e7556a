/-! the class Page: two rows, the limit, the way -/
abbrev zp_D : Type := zr_D × zr_D × Int32 × Int32
abbrev zp_L : Type := zr_L × zr_L × Int32 × Int32
def zp_W (i : Nat) (g : zp_D) : List zw_E := .inr (0, [.ref (i + 1), .ref (i + 4), .int g.2.2.1, .int g.2.2.2]) :: (zr_W (i + 1) g.1 ++ zr_W (i + 4) g.2.1)
def zp_R (S : zp_L) (g : zp_D) : Prop := zr_R S.1 g.1 ∧ zr_R S.2.1 g.2.1 ∧ S.2.2 = g.2.2
def zl_fo (L : zr_L) (key : Int32) : Option Nat := zf_ix (zl_fi L key) L.length
def zp_give (S : zp_L) (key v : Int32) : zp_L := (zl_give S.1 (zl_fo S.1 key) v, zl_give S.2.1 (zl_fo S.2.1 key) v, S.2.2)
def zp_touch (S : zp_L) (key : Int32) : zp_L := (S.1, zl_last S.2.1 (zl_fo S.2.1 key), S.2.2)
def zp_take (S : zp_L) (key : Int32) : zp_L := (zl_close S.1 (zl_fo S.1 key), zl_close S.2.1 (zl_fo S.2.1 key), S.2.2)
def zp_row (S : zp_L) (o : Int32) : zr_L := if o = 97 then S.2.1 else S.1
def zp_first (S : zp_L) : Int32 := zl_key (zp_row S S.2.2.2) (zf_ix 0 (zp_row S S.2.2.2).length)
def zp_drop (S : zp_L) : zp_L := zp_take S (zp_first S)
def zp_app (S : zp_L) (k v : Int32) : zp_L := (S.1 ++ [(k, v)], S.2.1 ++ [(k, v)], S.2.2)
def zp_drops (S : zp_L) : Nat → zp_L
  | 0 => S
  | n + 1 => zp_drops (zp_drop S) n
def zp_each (o : Int32) (ee : Nat) : Nat → zp_L → zp_L
  | 0, S => S
  | t + 1, S => zp_each o ee t (zp_take S (zl_key (zp_row S o) (zf_ix (nI ((t + 1) * ee - 1)) (zp_row S o).length)))
def zl_stay (C : zr_L) : zr_L → Int32 → Nat
  | [], _ => 0
  | q :: A, last => if zl_fi C q.1 < last then 0 else zl_stay C A (zl_fi C q.1) + 1
def zl_at (L : zr_L) (j : Nat) : Int32 := zl_key L (some j)
def zl_cr1 (C A : zr_L) (x : Int32) : Nat → Nat
  | 0 => 0
  | m + 1 => zl_cr1 C A x m + (if x < zl_fi C (zl_at A m) then 1 else 0)
def zl_cr (C A : zr_L) : Nat → Nat
  | 0 => 0
  | m + 1 => zl_cr C A m + zl_cr1 C A (zl_fi C (zl_at A m)) m
theorem zr_R.len {L : zr_L} {d : zr_D} (h : zr_R L d) : L.length ≤ 12 := h.2.1
theorem zl_fi_lt {L : zr_L} (hL : L.length ≤ 12) (key : Int32) : zl_fi L key = -1 ↔ ¬ zl_find L key < L.length := zf_i_m1 (by omega)
theorem zp_row_R {S : zp_L} {g : zp_D} (h : zp_R S g) (o : Int32) : zr_R (zp_row S o) (if o = 97 then g.2.1 else g.1) := by
  unfold zp_row
  split
  · exact h.2.1
  · exact h.1
set_option maxHeartbeats 4000000 in
theorem zp_rowM {l : Launch} (hl : l.stackTraces = false) (D : va_G) (dA : Nat → ClassId) (g : zp_D) (o : Int32) : zw_Sp l D dA yX0_row wsX0_row 0 0 0 [.ref 0, .int o] (zp_W 0 g) (fun v w => v = some (.ref (if o = 97 then 4 else 1)) ∧ w = zp_W 0 g) (fun _ _ => False) := by
  refine zw_start hl (by decide) rfl rfl (Nat.le_of_ble_eq_true rfl) ?_
  intro pr e s m args below meth c ad A hA B
  refine zs_iload_n B dX0_row_0 (i := 1) rfl rfl ?_
  refine zs_bipush (v := 97) B dX0_row_1 (by decide) ?_
  refine zs_icmp_ne (tgt := 13) B dX0_row_3 (by decide) (fun h => ?_) (fun h => ?_)
  · refine zs_aload_n B dX0_row_13 (i := 0) rfl rfl ?_
    refine zs_get B fX0_row_12 rfl rfl dX0_row_14 ?_
    exact zs_aret hA B rfl (Or.inl ⟨_, rfl⟩) (by decide) (by decide) ⟨by rw [if_neg h], rfl⟩ dX0_row_17
  · refine zs_aload_n B dX0_row_6 (i := 0) rfl rfl ?_
    refine zs_get B fX0_row_18 rfl rfl dX0_row_7 ?_
    refine zs_goto (tgt := 17) B dX0_row_10 (by decide) ?_
    exact zs_aret hA B rfl (Or.inl ⟨_, rfl⟩) (by decide) (by decide) ⟨by rw [if_pos h], rfl⟩ dX0_row_17
set_option maxHeartbeats 4000000 in
theorem zp_holds {l : Launch} (hl : l.stackTraces = false) (D : va_G) (dA : Nat → ClassId) (g : zp_D) (S : zp_L) (hR : zp_R S g) (key : Int32) : zw_Sp l D dA yX0_holds wsX0_holds 3 0 0 [.ref 0, .int key] (zp_W 0 g) (fun v w => v = some (.int (zf_b (decide (zl_find S.1 key < S.1.length)))) ∧ w = zp_W 0 g) (fun _ _ => False) := by
  refine zw_start hl (by decide) rfl rfl (Nat.le_of_ble_eq_true rfl) ?_
  intro pr e s m args below meth c ad A hA B
  refine zs_aload_n B dX0_holds_0 (i := 0) rfl rfl ?_
  refine zs_get B fX0_holds_12 rfl rfl dX0_holds_1 ?_
  refine zs_iload_n B dX0_holds_4 (i := 1) rfl rfl ?_
  refine zs_callV (n := 1) [1, 2, 3] B (zr_find hl D dA g.1 S.1 hR.1 key) gX0_holds_X2_find rfl ⟨rfl, by decide, by decide, by decide +kernel⟩ rfl (by rfl) rfl rfl rfl (by rfl) ⟨(by exact Nat.le_of_ble_eq_true rfl), (by exact Nat.le_of_ble_eq_true rfl)⟩ (by exact Nat.le_of_ble_eq_true rfl) ⟨(by exact Nat.le_of_ble_eq_true rfl), (by exact Nat.le_of_ble_eq_true rfl)⟩ dX0_holds_5 (by rintro v w ⟨rfl, rfl⟩; rfl) (fun _ _ h => h.elim) (fun _ _ h => h.elim) ?_
  rintro v w ⟨rfl, rfl⟩
  refine zs_eq (wl' := zp_W 0 g) (st' := [.int (zl_fi S.1 key)]) rfl rfl rfl rfl ?_
  refine zs_iconst (v := (-1)) B dX0_holds_8 (by decide) ?_
  refine zs_icmp_eq (tgt := 16) B dX0_holds_9 (by decide) (fun h => ?_) (fun h => ?_)
  · refine zs_iconst (v := 0) B dX0_holds_16 (by decide) ?_
    exact zs_zret hA B rfl rfl (by decide) (by decide) ⟨by rw [decide_eq_false ((zl_fi_lt hR.1.len key).mp h)]; rfl, rfl⟩ dX0_holds_17
  · refine zs_iconst (v := 1) B dX0_holds_12 (by decide) ?_
    refine zs_goto (tgt := 17) B dX0_holds_13 (by decide) ?_
    exact zs_zret hA B rfl rfl (by decide) (by decide) ⟨by rw [decide_eq_true (Classical.not_not.mp (fun q => h ((zl_fi_lt hR.1.len key).mpr q)))]; rfl, rfl⟩ dX0_holds_17
set_option maxHeartbeats 4000000 in
theorem zp_valueOf {l : Launch} (hl : l.stackTraces = false) (D : va_G) (dA : Nat → ClassId) (g : zp_D) (S : zp_L) (hR : zp_R S g) (key : Int32) : zw_Sp l D dA yX0_valueOf wsX0_valueOf 3 0 0 [.ref 0, .int key] (zp_W 0 g) (fun v w => v = some (.int (zl_val S.1 (zl_fo S.1 key))) ∧ w = zp_W 0 g) (fun _ _ => False) := by
  refine zw_start hl (by decide) rfl rfl (Nat.le_of_ble_eq_true rfl) ?_
  intro pr e s m args below meth c ad A hA B
  refine zs_aload_n B dX0_valueOf_0 (i := 0) rfl rfl ?_
  refine zs_get B fX0_valueOf_12 rfl rfl dX0_valueOf_1 ?_
  refine zs_aload_n B dX0_valueOf_4 (i := 0) rfl rfl ?_
  refine zs_get B fX0_valueOf_12 rfl rfl dX0_valueOf_5 ?_
  refine zs_iload_n B dX0_valueOf_8 (i := 1) rfl rfl ?_
  refine zs_callV (n := 1) [1, 2, 3] B (zr_find hl D dA g.1 S.1 hR.1 key) gX0_valueOf_X2_find rfl ⟨rfl, by decide, by decide, by decide +kernel⟩ rfl (by rfl) rfl rfl rfl (by rfl) ⟨(by exact Nat.le_of_ble_eq_true rfl), (by exact Nat.le_of_ble_eq_true rfl)⟩ (by exact Nat.le_of_ble_eq_true rfl) ⟨(by exact Nat.le_of_ble_eq_true rfl), (by exact Nat.le_of_ble_eq_true rfl)⟩ dX0_valueOf_9 (by rintro v w ⟨rfl, rfl⟩; rfl) (fun _ _ h => h.elim) (fun _ _ h => h.elim) ?_
  rintro v w ⟨rfl, rfl⟩
  refine zs_eq (wl' := zp_W 0 g) (st' := [.int (zl_fi S.1 key), .ref 1]) rfl rfl rfl rfl ?_
  refine zs_callV (n := 1) [1, 2, 3] B (zr_valueIn hl D dA g.1 S.1 hR.1 (zl_fi S.1 key)) gX0_valueOf_X2_valueIn rfl ⟨rfl, by decide, by decide, by decide +kernel⟩ rfl (by rfl) rfl rfl rfl (by rfl) ⟨(by exact Nat.le_of_ble_eq_true rfl), (by exact Nat.le_of_ble_eq_true rfl)⟩ (by exact Nat.le_of_ble_eq_true rfl) ⟨(by exact Nat.le_of_ble_eq_true rfl), (by exact Nat.le_of_ble_eq_true rfl)⟩ dX0_valueOf_12 (by rintro v w ⟨rfl, rfl⟩; rfl) (fun _ _ h => h.elim) (fun _ _ h => h.elim) ?_
  rintro v w ⟨rfl, rfl⟩
  exact zs_zret hA B rfl rfl (by decide) (by decide) ⟨rfl, rfl⟩ dX0_valueOf_15
set_option maxHeartbeats 4000000 in
theorem zp_giveKey {l : Launch} (hl : l.stackTraces = false) (D : va_G) (dA : Nat → ClassId) (g : zp_D) (S : zp_L) (hR : zp_R S g) (key x : Int32) : zw_Sp l D dA yX0_giveKey wsX0_giveKey 3 0 0 [.ref 0, .int key, .int x] (zp_W 0 g) (fun v w => v = none ∧ ∃ g', zp_R (zp_give S key x) g' ∧ w = zp_W 0 g') (fun _ _ => False) := by
  refine zw_start hl (by decide) rfl rfl (Nat.le_of_ble_eq_true rfl) ?_
  intro pr e s m args below meth c ad A hA B
  refine zs_aload_n B dX0_giveKey_0 (i := 0) rfl rfl ?_
  refine zs_get B fX0_giveKey_12 rfl rfl dX0_giveKey_1 ?_
  refine zs_aload_n B dX0_giveKey_4 (i := 0) rfl rfl ?_
  refine zs_get B fX0_giveKey_12 rfl rfl dX0_giveKey_5 ?_
  refine zs_iload_n B dX0_giveKey_8 (i := 1) rfl rfl ?_
  refine zs_callV (n := 1) [1, 2, 3] B (zr_find hl D dA g.1 S.1 hR.1 key) gX0_giveKey_X2_find rfl ⟨rfl, by decide, by decide, by decide +kernel⟩ rfl (by rfl) rfl rfl rfl (by rfl) ⟨(by exact Nat.le_of_ble_eq_true rfl), (by exact Nat.le_of_ble_eq_true rfl)⟩ (by exact Nat.le_of_ble_eq_true rfl) ⟨(by exact Nat.le_of_ble_eq_true rfl), (by exact Nat.le_of_ble_eq_true rfl)⟩ dX0_giveKey_9 (by rintro v w ⟨rfl, rfl⟩; rfl) (fun _ _ h => h.elim) (fun _ _ h => h.elim) ?_
  rintro v w ⟨rfl, rfl⟩
  refine zs_eq (wl' := zp_W 0 g) (st' := [.int (zl_fi S.1 key), .ref 1]) rfl rfl rfl rfl ?_
  refine zs_iload_n B dX0_giveKey_12 (i := 2) rfl rfl ?_
  refine zs_callV (n := 2) [1, 2, 3] B (zr_give hl D dA g.1 S.1 hR.1 (zl_fi S.1 key) x) gX0_giveKey_X2_give rfl ⟨rfl, by decide, by decide, by decide +kernel⟩ rfl (by rfl) rfl rfl rfl (by rfl) ⟨(by exact Nat.le_of_ble_eq_true rfl), (by exact Nat.le_of_ble_eq_true rfl)⟩ (by exact Nat.le_of_ble_eq_true rfl) ⟨(by exact Nat.le_of_ble_eq_true rfl), (by exact Nat.le_of_ble_eq_true rfl)⟩ dX0_giveKey_13 (by rintro v w ⟨rfl, d9, h9, rfl⟩; rfl) (fun _ _ h => h.elim) (fun _ _ h => h.elim) ?_
  rintro v w ⟨rfl, d1, hd1, rfl⟩
  refine zs_eq (wl' := zp_W 0 (d1, g.2)) (st' := []) rfl rfl rfl rfl ?_
  refine zs_aload_n B dX0_giveKey_16 (i := 0) rfl rfl ?_
  refine zs_get B fX0_giveKey_18 rfl rfl dX0_giveKey_17 ?_
  refine zs_aload_n B dX0_giveKey_20 (i := 0) rfl rfl ?_
  refine zs_get B fX0_giveKey_18 rfl rfl dX0_giveKey_21 ?_
  refine zs_iload_n B dX0_giveKey_24 (i := 1) rfl rfl ?_
  refine zs_callV (n := 1) [4, 5, 6] B (zr_find hl D dA g.2.1 S.2.1 hR.2.1 key) gX0_giveKey_X2_find rfl ⟨rfl, by decide, by decide, by decide +kernel⟩ rfl (by rfl) rfl rfl rfl (by rfl) ⟨(by exact Nat.le_of_ble_eq_true rfl), (by exact Nat.le_of_ble_eq_true rfl)⟩ (by exact Nat.le_of_ble_eq_true rfl) ⟨(by exact Nat.le_of_ble_eq_true rfl), (by exact Nat.le_of_ble_eq_true rfl)⟩ dX0_giveKey_25 (by rintro v w ⟨rfl, rfl⟩; rfl) (fun _ _ h => h.elim) (fun _ _ h => h.elim) ?_
  rintro v w ⟨rfl, rfl⟩
  refine zs_eq (wl' := zp_W 0 (d1, g.2)) (st' := [.int (zl_fi S.2.1 key), .ref 4]) rfl rfl rfl rfl ?_
  refine zs_iload_n B dX0_giveKey_28 (i := 2) rfl rfl ?_
  refine zs_callV (n := 2) [4, 5, 6] B (zr_give hl D dA g.2.1 S.2.1 hR.2.1 (zl_fi S.2.1 key) x) gX0_giveKey_X2_give rfl ⟨rfl, by decide, by decide, by decide +kernel⟩ rfl (by rfl) rfl rfl rfl (by rfl) ⟨(by exact Nat.le_of_ble_eq_true rfl), (by exact Nat.le_of_ble_eq_true rfl)⟩ (by exact Nat.le_of_ble_eq_true rfl) ⟨(by exact Nat.le_of_ble_eq_true rfl), (by exact Nat.le_of_ble_eq_true rfl)⟩ dX0_giveKey_29 (by rintro v w ⟨rfl, d9, h9, rfl⟩; rfl) (fun _ _ h => h.elim) (fun _ _ h => h.elim) ?_
  rintro v w ⟨rfl, d2, hd2, rfl⟩
  refine zs_eq (wl' := zp_W 0 (d1, d2, g.2.2)) (st' := []) rfl rfl rfl rfl ?_
  exact zs_vret hA B rfl (by decide) (by decide) ⟨rfl, (d1, d2, g.2.2), ⟨hd1, hd2, hR.2.2⟩, rfl⟩ dX0_giveKey_32
set_option maxHeartbeats 4000000 in
theorem zp_touchM {l : Launch} (hl : l.stackTraces = false) (D : va_G) (dA : Nat → ClassId) (g : zp_D) (S : zp_L) (hR : zp_R S g) (key : Int32) : zw_Sp l D dA yX0_touch wsX0_touch 3 0 0 [.ref 0, .int key] (zp_W 0 g) (fun v w => v = none ∧ ∃ g', zp_R (zp_touch S key) g' ∧ w = zp_W 0 g') (fun _ _ => False) := by
  refine zw_start hl (by decide) rfl rfl (Nat.le_of_ble_eq_true rfl) ?_
  intro pr e s m args below meth c ad A hA B
  refine zs_aload_n B dX0_touch_0 (i := 0) rfl rfl ?_
  refine zs_get B fX0_touch_18 rfl rfl dX0_touch_1 ?_
  refine zs_aload_n B dX0_touch_4 (i := 0) rfl rfl ?_
  refine zs_get B fX0_touch_18 rfl rfl dX0_touch_5 ?_
  refine zs_iload_n B dX0_touch_8 (i := 1) rfl rfl ?_
  refine zs_callV (n := 1) [4, 5, 6] B (zr_find hl D dA g.2.1 S.2.1 hR.2.1 key) gX0_touch_X2_find rfl ⟨rfl, by decide, by decide, by decide +kernel⟩ rfl (by rfl) rfl rfl rfl (by rfl) ⟨(by exact Nat.le_of_ble_eq_true rfl), (by exact Nat.le_of_ble_eq_true rfl)⟩ (by exact Nat.le_of_ble_eq_true rfl) ⟨(by exact Nat.le_of_ble_eq_true rfl), (by exact Nat.le_of_ble_eq_true rfl)⟩ dX0_touch_9 (by rintro v w ⟨rfl, rfl⟩; rfl) (fun _ _ h => h.elim) (fun _ _ h => h.elim) ?_
  rintro v w ⟨rfl, rfl⟩
  refine zs_eq (wl' := zp_W 0 g) (st' := [.int (zl_fi S.2.1 key), .ref 4]) rfl rfl rfl rfl ?_
  refine zs_callV (n := 1) [4, 5, 6] B (zr_putLast hl D dA g.2.1 S.2.1 hR.2.1 (zl_fi S.2.1 key)) gX0_touch_X2_putLast rfl ⟨rfl, by decide, by decide, by decide +kernel⟩ rfl (by rfl) rfl rfl rfl (by rfl) ⟨(by exact Nat.le_of_ble_eq_true rfl), (by exact Nat.le_of_ble_eq_true rfl)⟩ (by exact Nat.le_of_ble_eq_true rfl) ⟨(by exact Nat.le_of_ble_eq_true rfl), (by exact Nat.le_of_ble_eq_true rfl)⟩ dX0_touch_12 (by rintro v w ⟨rfl, d9, h9, rfl⟩; rfl) (fun _ _ h => h.elim) (fun _ _ h => h.elim) ?_
  rintro v w ⟨rfl, d1, hd1, rfl⟩
  refine zs_eq (wl' := zp_W 0 (g.1, d1, g.2.2)) (st' := []) rfl rfl rfl rfl ?_
  exact zs_vret hA B rfl (by decide) (by decide) ⟨rfl, (g.1, d1, g.2.2), ⟨hR.1, hd1, hR.2.2⟩, rfl⟩ dX0_touch_15
set_option maxHeartbeats 4000000 in
theorem zp_takeOut {l : Launch} (hl : l.stackTraces = false) (D : va_G) (dA : Nat → ClassId) (g : zp_D) (S : zp_L) (hR : zp_R S g) (key : Int32) : zw_Sp l D dA yX0_takeOut wsX0_takeOut 3 0 0 [.ref 0, .int key] (zp_W 0 g) (fun v w => v = none ∧ ∃ g', zp_R (zp_take S key) g' ∧ w = zp_W 0 g') (fun _ _ => False) := by
  refine zw_start hl (by decide) rfl rfl (Nat.le_of_ble_eq_true rfl) ?_
  intro pr e s m args below meth c ad A hA B
  refine zs_aload_n B dX0_takeOut_0 (i := 0) rfl rfl ?_
  refine zs_get B fX0_takeOut_12 rfl rfl dX0_takeOut_1 ?_
  refine zs_aload_n B dX0_takeOut_4 (i := 0) rfl rfl ?_
  refine zs_get B fX0_takeOut_12 rfl rfl dX0_takeOut_5 ?_
  refine zs_iload_n B dX0_takeOut_8 (i := 1) rfl rfl ?_
  refine zs_callV (n := 1) [1, 2, 3] B (zr_find hl D dA g.1 S.1 hR.1 key) gX0_takeOut_X2_find rfl ⟨rfl, by decide, by decide, by decide +kernel⟩ rfl (by rfl) rfl rfl rfl (by rfl) ⟨(by exact Nat.le_of_ble_eq_true rfl), (by exact Nat.le_of_ble_eq_true rfl)⟩ (by exact Nat.le_of_ble_eq_true rfl) ⟨(by exact Nat.le_of_ble_eq_true rfl), (by exact Nat.le_of_ble_eq_true rfl)⟩ dX0_takeOut_9 (by rintro v w ⟨rfl, rfl⟩; rfl) (fun _ _ h => h.elim) (fun _ _ h => h.elim) ?_
  rintro v w ⟨rfl, rfl⟩
  refine zs_eq (wl' := zp_W 0 g) (st' := [.int (zl_fi S.1 key), .ref 1]) rfl rfl rfl rfl ?_
  refine zs_callV (n := 1) [1, 2, 3] B (zr_close hl D dA g.1 S.1 hR.1 (zl_fi S.1 key)) gX0_takeOut_X2_close rfl ⟨rfl, by decide, by decide, by decide +kernel⟩ rfl (by rfl) rfl rfl rfl (by rfl) ⟨(by exact Nat.le_of_ble_eq_true rfl), (by exact Nat.le_of_ble_eq_true rfl)⟩ (by exact Nat.le_of_ble_eq_true rfl) ⟨(by exact Nat.le_of_ble_eq_true rfl), (by exact Nat.le_of_ble_eq_true rfl)⟩ dX0_takeOut_12 (by rintro v w ⟨rfl, d9, h9, rfl⟩; rfl) (fun _ _ h => h.elim) (fun _ _ h => h.elim) ?_
  rintro v w ⟨rfl, d1, hd1, rfl⟩
  refine zs_eq (wl' := zp_W 0 (d1, g.2)) (st' := []) rfl rfl rfl rfl ?_
  refine zs_aload_n B dX0_takeOut_15 (i := 0) rfl rfl ?_
  refine zs_get B fX0_takeOut_18 rfl rfl dX0_takeOut_16 ?_
  refine zs_aload_n B dX0_takeOut_19 (i := 0) rfl rfl ?_
  refine zs_get B fX0_takeOut_18 rfl rfl dX0_takeOut_20 ?_
  refine zs_iload_n B dX0_takeOut_23 (i := 1) rfl rfl ?_
  refine zs_callV (n := 1) [4, 5, 6] B (zr_find hl D dA g.2.1 S.2.1 hR.2.1 key) gX0_takeOut_X2_find rfl ⟨rfl, by decide, by decide, by decide +kernel⟩ rfl (by rfl) rfl rfl rfl (by rfl) ⟨(by exact Nat.le_of_ble_eq_true rfl), (by exact Nat.le_of_ble_eq_true rfl)⟩ (by exact Nat.le_of_ble_eq_true rfl) ⟨(by exact Nat.le_of_ble_eq_true rfl), (by exact Nat.le_of_ble_eq_true rfl)⟩ dX0_takeOut_24 (by rintro v w ⟨rfl, rfl⟩; rfl) (fun _ _ h => h.elim) (fun _ _ h => h.elim) ?_
  rintro v w ⟨rfl, rfl⟩
  refine zs_eq (wl' := zp_W 0 (d1, g.2)) (st' := [.int (zl_fi S.2.1 key), .ref 4]) rfl rfl rfl rfl ?_
  refine zs_callV (n := 1) [4, 5, 6] B (zr_close hl D dA g.2.1 S.2.1 hR.2.1 (zl_fi S.2.1 key)) gX0_takeOut_X2_close rfl ⟨rfl, by decide, by decide, by decide +kernel⟩ rfl (by rfl) rfl rfl rfl (by rfl) ⟨(by exact Nat.le_of_ble_eq_true rfl), (by exact Nat.le_of_ble_eq_true rfl)⟩ (by exact Nat.le_of_ble_eq_true rfl) ⟨(by exact Nat.le_of_ble_eq_true rfl), (by exact Nat.le_of_ble_eq_true rfl)⟩ dX0_takeOut_27 (by rintro v w ⟨rfl, d9, h9, rfl⟩; rfl) (fun _ _ h => h.elim) (fun _ _ h => h.elim) ?_
  rintro v w ⟨rfl, d2, hd2, rfl⟩
  refine zs_eq (wl' := zp_W 0 (d1, d2, g.2.2)) (st' := []) rfl rfl rfl rfl ?_
  exact zs_vret hA B rfl (by decide) (by decide) ⟨rfl, (d1, d2, g.2.2), ⟨hd1, hd2, hR.2.2⟩, rfl⟩ dX0_takeOut_30
set_option maxHeartbeats 4000000 in
theorem zp_dropEldest {l : Launch} (hl : l.stackTraces = false) (D : va_G) (dA : Nat → ClassId) (g : zp_D) (S : zp_L) (hR : zp_R S g) : zw_Sp l D dA yX0_dropEldest wsX0_dropEldest 4 0 0 [.ref 0] (zp_W 0 g) (fun v w => v = some (.int (zp_first S)) ∧ ∃ g', zp_R (zp_drop S) g' ∧ w = zp_W 0 g') (fun _ _ => False) := by
  refine zw_start hl (by decide) rfl rfl (Nat.le_of_ble_eq_true rfl) ?_
  intro pr e s m args below meth c ad A hA B
  refine zs_aload_n B dX0_dropEldest_0 (i := 0) rfl rfl ?_
  refine zs_aload_n B dX0_dropEldest_1 (i := 0) rfl rfl ?_
  refine zs_get B fX0_dropEldest_25 rfl rfl dX0_dropEldest_2 ?_
  refine zs_callV (n := 1) [0, 1, 2, 3, 4, 5, 6] B (zp_rowM hl D dA g g.2.2.2) gX0_dropEldest_X0_row rfl ⟨rfl, by decide, by decide, by decide +kernel⟩ rfl (by rfl) rfl rfl rfl (by rfl) ⟨(by exact Nat.le_of_ble_eq_true rfl), (by exact Nat.le_of_ble_eq_true rfl)⟩ (by exact Nat.le_of_ble_eq_true rfl) ⟨(by exact Nat.le_of_ble_eq_true rfl), (by exact Nat.le_of_ble_eq_true rfl)⟩ dX0_dropEldest_5 (by rintro v w ⟨rfl, rfl⟩; rfl) (fun _ _ h => h.elim) (fun _ _ h => h.elim) ?_
  rintro v w ⟨rfl, rfl⟩
  have hby : S.2.2.2 = g.2.2.2 := congrArg Prod.snd hR.2.2
  by_cases ho : g.2.2.2 = 97
  · rw [if_pos ho]
    refine zs_eq (wl' := zp_W 0 g) (st' := [.ref 4]) rfl rfl rfl rfl ?_
    refine zs_iconst (v := 0) B dX0_dropEldest_8 (by decide) ?_
    refine zs_callV (n := 1) [4, 5, 6] B (zr_keyIn hl D dA g.2.1 S.2.1 hR.2.1 0) gX0_dropEldest_X2_keyIn rfl ⟨rfl, by decide, by decide, by decide +kernel⟩ rfl (by rfl) rfl rfl rfl (by rfl) ⟨(by exact Nat.le_of_ble_eq_true rfl), (by exact Nat.le_of_ble_eq_true rfl)⟩ (by exact Nat.le_of_ble_eq_true rfl) ⟨(by exact Nat.le_of_ble_eq_true rfl), (by exact Nat.le_of_ble_eq_true rfl)⟩ dX0_dropEldest_9 (by rintro v w ⟨rfl, rfl⟩; rfl) (fun _ _ h => h.elim) (fun _ _ h => h.elim) ?_
    rintro v w ⟨rfl, rfl⟩
    have e1 : zl_key S.2.1 (zf_ix 0 S.2.1.length) = zp_first S := by unfold zp_first zp_row; rw [hby, if_pos ho]
    rw [e1]
    refine zs_eq (wl' := zp_W 0 g) (st' := [.int (zp_first S)]) rfl rfl rfl rfl ?_
    refine zs_istore_n B dX0_dropEldest_12 (i := 1) rfl (by decide) rfl ?_
    refine zs_aload_n B dX0_dropEldest_13 (i := 0) rfl rfl ?_
    refine zs_iload_n B dX0_dropEldest_14 (i := 1) rfl rfl ?_
    refine zs_callV (n := 1) [0, 1, 2, 3, 4, 5, 6] B (zp_takeOut hl D dA g S hR (zp_first S)) gX0_dropEldest_X0_takeOut rfl ⟨rfl, by decide, by decide, by decide +kernel⟩ rfl (by rfl) rfl rfl rfl (by rfl) ⟨(by exact Nat.le_of_ble_eq_true rfl), (by exact Nat.le_of_ble_eq_true rfl)⟩ (by exact Nat.le_of_ble_eq_true rfl) ⟨(by exact Nat.le_of_ble_eq_true rfl), (by exact Nat.le_of_ble_eq_true rfl)⟩ dX0_dropEldest_15 (by rintro v w ⟨rfl, d9, h9, rfl⟩; rfl) (fun _ _ h => h.elim) (fun _ _ h => h.elim) ?_
    rintro v w ⟨rfl, g1, hg1, rfl⟩
    refine zs_eq (wl' := zp_W 0 g1) (st' := []) rfl rfl rfl rfl ?_
    refine zs_iload_n B dX0_dropEldest_18 (i := 1) rfl rfl ?_
    exact zs_zret hA B rfl rfl (by decide) (by decide) ⟨rfl, g1, hg1, rfl⟩ dX0_dropEldest_19
  · rw [if_neg ho]
    refine zs_eq (wl' := zp_W 0 g) (st' := [.ref 1]) rfl rfl rfl rfl ?_
    refine zs_iconst (v := 0) B dX0_dropEldest_8 (by decide) ?_
    refine zs_callV (n := 1) [1, 2, 3] B (zr_keyIn hl D dA g.1 S.1 hR.1 0) gX0_dropEldest_X2_keyIn rfl ⟨rfl, by decide, by decide, by decide +kernel⟩ rfl (by rfl) rfl rfl rfl (by rfl) ⟨(by exact Nat.le_of_ble_eq_true rfl), (by exact Nat.le_of_ble_eq_true rfl)⟩ (by exact Nat.le_of_ble_eq_true rfl) ⟨(by exact Nat.le_of_ble_eq_true rfl), (by exact Nat.le_of_ble_eq_true rfl)⟩ dX0_dropEldest_9 (by rintro v w ⟨rfl, rfl⟩; rfl) (fun _ _ h => h.elim) (fun _ _ h => h.elim) ?_
    rintro v w ⟨rfl, rfl⟩
    have e1 : zl_key S.1 (zf_ix 0 S.1.length) = zp_first S := by unfold zp_first zp_row; rw [hby, if_neg ho]
    rw [e1]
    refine zs_eq (wl' := zp_W 0 g) (st' := [.int (zp_first S)]) rfl rfl rfl rfl ?_
    refine zs_istore_n B dX0_dropEldest_12 (i := 1) rfl (by decide) rfl ?_
    refine zs_aload_n B dX0_dropEldest_13 (i := 0) rfl rfl ?_
    refine zs_iload_n B dX0_dropEldest_14 (i := 1) rfl rfl ?_
    refine zs_callV (n := 1) [0, 1, 2, 3, 4, 5, 6] B (zp_takeOut hl D dA g S hR (zp_first S)) gX0_dropEldest_X0_takeOut rfl ⟨rfl, by decide, by decide, by decide +kernel⟩ rfl (by rfl) rfl rfl rfl (by rfl) ⟨(by exact Nat.le_of_ble_eq_true rfl), (by exact Nat.le_of_ble_eq_true rfl)⟩ (by exact Nat.le_of_ble_eq_true rfl) ⟨(by exact Nat.le_of_ble_eq_true rfl), (by exact Nat.le_of_ble_eq_true rfl)⟩ dX0_dropEldest_15 (by rintro v w ⟨rfl, d9, h9, rfl⟩; rfl) (fun _ _ h => h.elim) (fun _ _ h => h.elim) ?_
    rintro v w ⟨rfl, g1, hg1, rfl⟩
    refine zs_eq (wl' := zp_W 0 g1) (st' := []) rfl rfl rfl rfl ?_
    refine zs_iload_n B dX0_dropEldest_18 (i := 1) rfl rfl ?_
    exact zs_zret hA B rfl rfl (by decide) (by decide) ⟨rfl, g1, hg1, rfl⟩ dX0_dropEldest_19
set_option maxHeartbeats 4000000 in
theorem zp_letIn {l : Launch} (hl : l.stackTraces = false) (D : va_G) (dA : Nat → ClassId) (g : zp_D) (S : zp_L) (hR : zp_R S g) (mm : Nat) (hm : S.2.2.1 = nI mm) (hm12 : mm ≤ 12) (h1 : S.2.1.length = S.1.length) (h2 : (zp_drop S).1.length < 12) (h3 : (zp_drop S).2.1.length < 12) (key x : Int32) : zw_Sp l D dA yX0_letIn wsX0_letIn 5 0 0 [.ref 0, .int key, .int x] (zp_W 0 g) (fun v w => v = some (.int (if S.1.length < mm then -1 else zp_first S)) ∧ ∃ g', zp_R (zp_app (if S.1.length < mm then S else zp_drop S) key x) g' ∧ w = zp_W 0 g') (fun _ _ => False) := by
  refine zw_start hl (by decide) rfl rfl (Nat.le_of_ble_eq_true rfl) ?_
  intro pr e s m args below meth c ad A hA B
  have hmost : g.2.2.1 = nI mm := by rw [← hm]; exact (congrArg Prod.fst hR.2.2).symm
  have h12 := hR.1.len
  refine zs_aload_n B dX0_letIn_0 (i := 0) rfl rfl ?_
  refine zs_get B fX0_letIn_12 rfl rfl dX0_letIn_1 ?_
  refine zs_callV (n := 0) [1, 2, 3] B (zr_count hl D dA g.1) gX0_letIn_X2_count rfl ⟨rfl, by decide, by decide, by decide +kernel⟩ rfl (by rfl) rfl rfl rfl (by rfl) ⟨(by exact Nat.le_of_ble_eq_true rfl), (by exact Nat.le_of_ble_eq_true rfl)⟩ (by exact Nat.le_of_ble_eq_true rfl) ⟨(by exact Nat.le_of_ble_eq_true rfl), (by exact Nat.le_of_ble_eq_true rfl)⟩ dX0_letIn_4 (by rintro v w ⟨rfl, rfl⟩; rfl) (fun _ _ h => h.elim) (fun _ _ h => h.elim) ?_
  rintro v w ⟨rfl, rfl⟩
  refine zs_eq (wl' := zp_W 0 g) (st' := [.int (nI S.1.length)]) rfl rfl (by rw [← hR.1.1]; rfl) rfl ?_
  refine zs_aload_n B dX0_letIn_7 (i := 0) rfl rfl ?_
  refine zs_get B fX0_letIn_21 rfl rfl dX0_letIn_8 ?_
  rw [hmost]
  refine zs_icmp_ge (tgt := 18) B dX0_letIn_11 (by decide) (fun h => ?_) (fun h => ?_)
  · have h4 : ¬ S.1.length < mm := by have := (nI_leI (by omega) (by omega)).mp h; omega
    rw [if_neg h4, if_neg h4]
    refine zs_aload_n B dX0_letIn_18 (i := 0) rfl rfl ?_
    refine zs_callV (n := 0) [0, 1, 2, 3, 4, 5, 6] B (zp_dropEldest hl D dA g S hR) gX0_letIn_X0_dropEldest rfl ⟨rfl, by decide, by decide, by decide +kernel⟩ rfl (by rfl) rfl rfl rfl (by rfl) ⟨(by exact Nat.le_of_ble_eq_true rfl), (by exact Nat.le_of_ble_eq_true rfl)⟩ (by exact Nat.le_of_ble_eq_true rfl) ⟨(by exact Nat.le_of_ble_eq_true rfl), (by exact Nat.le_of_ble_eq_true rfl)⟩ dX0_letIn_19 (by rintro v w ⟨rfl, d9, h9, rfl⟩; rfl) (fun _ _ h => h.elim) (fun _ _ h => h.elim) ?_
    rintro v w ⟨rfl, g1, hg1, rfl⟩
    refine zs_eq (wl' := zp_W 0 g1) (st' := [.int (zp_first S)]) rfl rfl rfl rfl ?_
    refine zs_istore_n B dX0_letIn_22 (i := 3) rfl (by decide) rfl ?_
    refine zs_aload_n B dX0_letIn_23 (i := 0) rfl rfl ?_
    refine zs_get B fX0_letIn_12 rfl rfl dX0_letIn_24 ?_
    refine zs_iload_n B dX0_letIn_27 (i := 1) rfl rfl ?_
    refine zs_iload_n B dX0_letIn_28 (i := 2) rfl rfl ?_
    refine zs_callV (n := 2) [1, 2, 3] B (zr_append hl D dA g1.1 _ hg1.1 h2 key x) gX0_letIn_X2_append rfl ⟨rfl, by decide, by decide, by decide +kernel⟩ rfl (by rfl) rfl rfl rfl (by rfl) ⟨(by exact Nat.le_of_ble_eq_true rfl), (by exact Nat.le_of_ble_eq_true rfl)⟩ (by exact Nat.le_of_ble_eq_true rfl) ⟨(by exact Nat.le_of_ble_eq_true rfl), (by exact Nat.le_of_ble_eq_true rfl)⟩ dX0_letIn_29 (by rintro v w ⟨rfl, d9, h9, rfl⟩; rfl) (fun _ _ h => h.elim) (fun _ _ h => h.elim) ?_
    rintro v w ⟨rfl, d1, hd1, rfl⟩
    refine zs_eq (wl' := zp_W 0 (d1, g1.2)) (st' := []) rfl rfl rfl rfl ?_
    refine zs_aload_n B dX0_letIn_32 (i := 0) rfl rfl ?_
    refine zs_get B fX0_letIn_18 rfl rfl dX0_letIn_33 ?_
    refine zs_iload_n B dX0_letIn_36 (i := 1) rfl rfl ?_
    refine zs_iload_n B dX0_letIn_37 (i := 2) rfl rfl ?_
    refine zs_callV (n := 2) [4, 5, 6] B (zr_append hl D dA g1.2.1 _ hg1.2.1 h3 key x) gX0_letIn_X2_append rfl ⟨rfl, by decide, by decide, by decide +kernel⟩ rfl (by rfl) rfl rfl rfl (by rfl) ⟨(by exact Nat.le_of_ble_eq_true rfl), (by exact Nat.le_of_ble_eq_true rfl)⟩ (by exact Nat.le_of_ble_eq_true rfl) ⟨(by exact Nat.le_of_ble_eq_true rfl), (by exact Nat.le_of_ble_eq_true rfl)⟩ dX0_letIn_38 (by rintro v w ⟨rfl, d9, h9, rfl⟩; rfl) (fun _ _ h => h.elim) (fun _ _ h => h.elim) ?_
    rintro v w ⟨rfl, d2, hd2, rfl⟩
    refine zs_eq (wl' := zp_W 0 (d1, d2, g1.2.2)) (st' := []) rfl rfl rfl rfl ?_
    refine zs_iload_n B dX0_letIn_41 (i := 3) rfl rfl ?_
    exact zs_zret hA B rfl rfl (by decide) (by decide) ⟨rfl, (d1, d2, g1.2.2), ⟨hd1, hd2, hg1.2.2⟩, rfl⟩ dX0_letIn_42
  · have h4 : S.1.length < mm := by
      rcases Nat.lt_or_ge S.1.length mm with q | q
      · exact q
      · exact absurd (nI_le q (by omega)) h
    rw [if_pos h4, if_pos h4]
    refine zs_iconst (v := (-1)) B dX0_letIn_14 (by decide) ?_
    refine zs_goto (tgt := 22) B dX0_letIn_15 (by decide) ?_
    refine zs_istore_n B dX0_letIn_22 (i := 3) rfl (by decide) rfl ?_
    refine zs_aload_n B dX0_letIn_23 (i := 0) rfl rfl ?_
    refine zs_get B fX0_letIn_12 rfl rfl dX0_letIn_24 ?_
    refine zs_iload_n B dX0_letIn_27 (i := 1) rfl rfl ?_
    refine zs_iload_n B dX0_letIn_28 (i := 2) rfl rfl ?_
    refine zs_callV (n := 2) [1, 2, 3] B (zr_append hl D dA g.1 _ hR.1 (by omega) key x) gX0_letIn_X2_append rfl ⟨rfl, by decide, by decide, by decide +kernel⟩ rfl (by rfl) rfl rfl rfl (by rfl) ⟨(by exact Nat.le_of_ble_eq_true rfl), (by exact Nat.le_of_ble_eq_true rfl)⟩ (by exact Nat.le_of_ble_eq_true rfl) ⟨(by exact Nat.le_of_ble_eq_true rfl), (by exact Nat.le_of_ble_eq_true rfl)⟩ dX0_letIn_29 (by rintro v w ⟨rfl, d9, h9, rfl⟩; rfl) (fun _ _ h => h.elim) (fun _ _ h => h.elim) ?_
    rintro v w ⟨rfl, d1, hd1, rfl⟩
    refine zs_eq (wl' := zp_W 0 (d1, g.2)) (st' := []) rfl rfl rfl rfl ?_
    refine zs_aload_n B dX0_letIn_32 (i := 0) rfl rfl ?_
    refine zs_get B fX0_letIn_18 rfl rfl dX0_letIn_33 ?_
    refine zs_iload_n B dX0_letIn_36 (i := 1) rfl rfl ?_
    refine zs_iload_n B dX0_letIn_37 (i := 2) rfl rfl ?_
    refine zs_callV (n := 2) [4, 5, 6] B (zr_append hl D dA g.2.1 _ hR.2.1 (by omega) key x) gX0_letIn_X2_append rfl ⟨rfl, by decide, by decide, by decide +kernel⟩ rfl (by rfl) rfl rfl rfl (by rfl) ⟨(by exact Nat.le_of_ble_eq_true rfl), (by exact Nat.le_of_ble_eq_true rfl)⟩ (by exact Nat.le_of_ble_eq_true rfl) ⟨(by exact Nat.le_of_ble_eq_true rfl), (by exact Nat.le_of_ble_eq_true rfl)⟩ dX0_letIn_38 (by rintro v w ⟨rfl, d9, h9, rfl⟩; rfl) (fun _ _ h => h.elim) (fun _ _ h => h.elim) ?_
    rintro v w ⟨rfl, d2, hd2, rfl⟩
    refine zs_eq (wl' := zp_W 0 (d1, d2, g.2.2)) (st' := []) rfl rfl rfl rfl ?_
    refine zs_iload_n B dX0_letIn_41 (i := 3) rfl rfl ?_
    exact zs_zret hA B rfl rfl (by decide) (by decide) ⟨rfl, (d1, d2, g.2.2), ⟨hd1, hd2, hR.2.2⟩, rfl⟩ dX0_letIn_42
