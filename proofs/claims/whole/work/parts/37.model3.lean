/-! the model's inner methods -/
def zm_th (v : zm_V) (x : Int32) : zm_V := (v.1, v.2.1, v.2.2.1, v.2.2.2.1, v.2.2.2.2.1, v.2.2.2.2.2.1, v.2.2.2.2.2.2.1, v.2.2.2.2.2.2.2.1, x)
def zm_t (v : zm_V) : Int32 := v.2.2.2.2.2.2.2.2
abbrev zm_Wk : Type := Int32 × List Int32 × Int32
abbrev zm_U : Type := zp_L × List zp_L × zm_Wk
def zm_w (W : zm_Wk) (f : Nat → Int32) (on ps nx la : Int32) : Prop := on = W.1 ∧ la = W.2.2 ∧ (W.1 = 0 ∨ W.1 = 1) ∧ ∃ n p : Nat, nx = nI n ∧ ps = nI p ∧ n + W.2.1.length = p ∧ p ≤ 12 ∧ ∀ (i : Nat) (x : Int32), W.2.1[i]? = some x → f (n + i) = x
def zm_R (U : zm_U) (t : Int32) (d : zm_D) : Prop := zm_P U.1 (d.1 1) (d.1 2) (d.1 3) d.2.1 d.2.2.1 d.2.2.2.1 ∧ (∃ n, d.2.2.2.2.1 = nI n ∧ zm_H U.2.1 d.1 n) ∧ zm_w U.2.2 (d.1 34) d.2.2.2.2.2.1 d.2.2.2.2.2.2.1 d.2.2.2.2.2.2.2.1 d.2.2.2.2.2.2.2.2.1 ∧ zm_t d.2 = t
def zm_I (U : zm_U) : Prop := zp_I U.1 ∧ ∀ S ∈ U.2.1, zp_I S
theorem zp_I.g {S : zp_L} (h : zp_I S) : zm_g S := ⟨h.1.l12, h.1.a12, h.1.2.2.2.1⟩
set_option maxHeartbeats 4000000 in
theorem zm_no {l : Launch} (hl : l.stackTraces = false) (D : va_G) (dA : Nat → ClassId) (a : zm_A) (v : zm_V) (b : Bool) (x : Int32) : zw_Sp l D dA yX5_no wsX5_no 0 0 0 [.ref 0, .int (zf_b b), .int x] (zm_W 0 (a, v))
    (fun r w => r = some (.int (zf_b (!b))) ∧ w = zm_W 0 (a, zm_th v (if b then 0 else x))) (fun _ _ => False) := by
  refine zw_start hl (by decide) rfl rfl (Nat.le_of_ble_eq_true rfl) ?_
  intro pr e s m args below meth c ad A hA B
  cases b with
  | true =>
    refine zs_aload_n B dX5_no_0 (i := 0) rfl rfl ?_
    refine zs_iload_n B dX5_no_1 (i := 1) rfl rfl ?_
    refine zs_if_eq (tgt := 9) B dX5_no_2 (by decide) (fun h => absurd h (by decide)) (fun _ => ?_)
    refine zs_iconst (v := 0) B dX5_no_5 (by decide) ?_
    refine zs_goto (tgt := 10) B dX5_no_6 (by decide) ?_
    refine zs_put B (wX5_no_54 rfl rfl) rfl (Nat.le_of_ble_eq_true rfl) dX5_no_10 ?_
    refine zs_iload_n B dX5_no_13 (i := 1) rfl rfl ?_
    refine zs_if_ne (tgt := 21) B dX5_no_14 (by decide) (fun _ => ?_) (fun h => absurd (show zf_b true = 0 from h) (by decide))
    refine zs_iconst (v := 0) B dX5_no_21 (by decide) ?_
    exact zs_zret hA B rfl rfl (by decide) (by decide) ⟨rfl, rfl⟩ dX5_no_22
  | false =>
    refine zs_aload_n B dX5_no_0 (i := 0) rfl rfl ?_
    refine zs_iload_n B dX5_no_1 (i := 1) rfl rfl ?_
    refine zs_if_eq (tgt := 9) B dX5_no_2 (by decide) (fun _ => ?_) (fun h => absurd (show zf_b false = 0 from rfl) h)
    refine zs_iload_n B dX5_no_9 (i := 2) rfl rfl ?_
    refine zs_put B (wX5_no_54 rfl rfl) rfl (Nat.le_of_ble_eq_true rfl) dX5_no_10 ?_
    refine zs_iload_n B dX5_no_13 (i := 1) rfl rfl ?_
    refine zs_if_ne (tgt := 21) B dX5_no_14 (by decide) (fun h => absurd (show zf_b false = 0 from rfl) h) (fun _ => ?_)
    refine zs_iconst (v := 1) B dX5_no_17 (by decide) ?_
    refine zs_goto (tgt := 22) B dX5_no_18 (by decide) ?_
    exact zs_zret hA B rfl rfl (by decide) (by decide) ⟨rfl, rfl⟩ dX5_no_22
set_option maxHeartbeats 4000000 in
theorem zm_in {l : Launch} (hl : l.stackTraces = false) (D : va_G) (dA : Nat → ClassId) (x lo hi : Int32) : zw_Sp l D dA yX5_in wsX5_in 0 0 0 [.int x, .int lo, .int hi] []
    (fun r w => r = some (.int (zf_b (decide (lo ≤ x ∧ x ≤ hi)))) ∧ w = []) (fun _ _ => False) := by
  refine zw_start hl (by decide) rfl rfl (Nat.le_of_ble_eq_true rfl) ?_
  intro pr e s m args below meth c ad A hA B
  refine zs_iload_n B dX5_in_0 (i := 0) rfl rfl ?_
  refine zs_iload_n B dX5_in_1 (i := 1) rfl rfl ?_
  refine zs_icmp_lt (tgt := 14) B dX5_in_2 (by decide) (fun h => ?_) (fun h => ?_)
  · refine zs_iconst (v := 0) B dX5_in_14 (by decide) ?_
    refine zs_zret hA B rfl rfl (by decide) (by decide) ⟨?_, rfl⟩ dX5_in_15
    rw [decide_eq_false (fun q => absurd h (Int32.not_lt.mpr q.1))]
    rfl
  · refine zs_iload_n B dX5_in_5 (i := 0) rfl rfl ?_
    refine zs_iload_n B dX5_in_6 (i := 2) rfl rfl ?_
    refine zs_icmp_gt (tgt := 14) B dX5_in_7 (by decide) (fun h2 => ?_) (fun h2 => ?_)
    · refine zs_iconst (v := 0) B dX5_in_14 (by decide) ?_
      refine zs_zret hA B rfl rfl (by decide) (by decide) ⟨?_, rfl⟩ dX5_in_15
      rw [decide_eq_false (fun q => absurd h2 (Int32.not_lt.mpr q.2))]
      rfl
    · refine zs_iconst (v := 1) B dX5_in_10 (by decide) ?_
      refine zs_goto (tgt := 15) B dX5_in_11 (by decide) ?_
      refine zs_zret hA B rfl rfl (by decide) (by decide) ⟨?_, rfl⟩ dX5_in_15
      rw [decide_eq_true ⟨Int32.not_lt.mp h, Int32.not_lt.mp h2⟩]
      rfl
set_option maxHeartbeats 4000000 in
theorem zm_isOrder {l : Launch} (hl : l.stackTraces = false) (D : va_G) (dA : Nat → ClassId) (o : Int32) : zw_Sp l D dA yX5_isOrder wsX5_isOrder 0 0 0 [.int o] []
    (fun r w => r = some (.int (zf_b (decide (o = 99 ∨ o = 97)))) ∧ w = []) (fun _ _ => False) := by
  refine zw_start hl (by decide) rfl rfl (Nat.le_of_ble_eq_true rfl) ?_
  intro pr e s m args below meth c ad A hA B
  refine zs_iload_n B dX5_isOrder_0 (i := 0) rfl rfl ?_
  refine zs_bipush (v := 99) B dX5_isOrder_1 (by decide) ?_
  refine zs_icmp_eq (tgt := 12) B dX5_isOrder_3 (by decide) (fun h => ?_) (fun h => ?_)
  · refine zs_iconst (v := 1) B dX5_isOrder_12 (by decide) ?_
    refine zs_goto (tgt := 17) B dX5_isOrder_13 (by decide) ?_
    refine zs_zret hA B rfl rfl (by decide) (by decide) ⟨?_, rfl⟩ dX5_isOrder_17
    rw [decide_eq_true (Or.inl h)]
    rfl
  · refine zs_iload_n B dX5_isOrder_6 (i := 0) rfl rfl ?_
    refine zs_bipush (v := 97) B dX5_isOrder_7 (by decide) ?_
    refine zs_icmp_ne (tgt := 16) B dX5_isOrder_9 (by decide) (fun h2 => ?_) (fun h2 => ?_)
    · refine zs_iconst (v := 0) B dX5_isOrder_16 (by decide) ?_
      refine zs_zret hA B rfl rfl (by decide) (by decide) ⟨?_, rfl⟩ dX5_isOrder_17
      rw [decide_eq_false (fun q => q.elim h h2)]
      rfl
    · refine zs_iconst (v := 1) B dX5_isOrder_12 (by decide) ?_
      refine zs_goto (tgt := 17) B dX5_isOrder_13 (by decide) ?_
      refine zs_zret hA B rfl rfl (by decide) (by decide) ⟨?_, rfl⟩ dX5_isOrder_17
      rw [decide_eq_true (Or.inr h2)]
      rfl
def zm_ro (o : Int32) : Nat := if o = 99 then 1 else 3
set_option maxHeartbeats 4000000 in
theorem zm_rowM {l : Launch} (hl : l.stackTraces = false) (D : va_G) (dA : Nat → ClassId) (d : zm_D) (o : Int32) : zw_Sp l D dA yX5_row wsX5_row 0 0 0 [.ref 0, .int o] (zm_W 0 d)
    (fun r w => r = some (.ref (zm_ro o)) ∧ w = zm_W 0 d) (fun _ _ => False) := by
  refine zw_start hl (by decide) rfl rfl (Nat.le_of_ble_eq_true rfl) ?_
  intro pr e s m args below meth c ad A hA B
  refine zs_iload_n B dX5_row_0 (i := 1) rfl rfl ?_
  refine zs_bipush (v := 99) B dX5_row_1 (by decide) ?_
  refine zs_icmp_ne (tgt := 13) B dX5_row_3 (by decide) (fun h => ?_) (fun h => ?_)
  · refine zs_aload_n B dX5_row_13 (i := 0) rfl rfl ?_
    refine zs_get B fX5_row_16 rfl rfl dX5_row_14 ?_
    refine zs_aret hA B rfl (Or.inr ⟨_, rfl⟩) (by decide) (by decide) ⟨?_, rfl⟩ dX5_row_17
    unfold zm_ro
    rw [if_neg h]
  · refine zs_aload_n B dX5_row_6 (i := 0) rfl rfl ?_
    refine zs_get B fX5_row_9 rfl rfl dX5_row_7 ?_
    refine zs_goto (tgt := 17) B dX5_row_10 (by decide) ?_
    refine zs_aret hA B rfl (Or.inr ⟨_, rfl⟩) (by decide) (by decide) ⟨?_, rfl⟩ dX5_row_17
    unfold zm_ro
    rw [if_pos h]
set_option maxHeartbeats 4000000 in
theorem zm_place {l : Launch} (hl : l.stackTraces = false) (D : va_G) (dA : Nat → ClassId) (a : zm_A) (v : zm_V) (r : Nat) (hr : zm_ar r) (L : zr_L) (hk : zm_key L (a r)) (hv : v.1 = nI L.length) (h13 : L.length ≤ 13) (key : Int32) : zw_Sp l D dA yX5_place wsX5_place 0 0 0 [.ref 0, .ref r, .int key] (zm_W 0 (a, v))
    (fun q w => q = some (.int (zl_fi L key)) ∧ w = zm_W 0 (a, v)) (fun _ _ => False) := by
  refine zw_start hl (by decide) rfl rfl (Nat.le_of_ble_eq_true rfl) ?_
  intro pr e s m args below meth c ad A hA B
  refine zs_iconst (v := 0) B dX5_place_0 (by decide) ?_
  refine zs_istore_n B dX5_place_1 (i := 3) rfl (by decide) rfl ?_
  refine zs_eq (wl' := zm_W 0 (a, v)) (lv' := [some (.ref 0), some (.ref r), some (.int key), some (.int (nI (zz 0)))]) rfl rfl rfl rfl ?_
  obtain ⟨k, hk9⟩ : ∃ k, k + zz 0 = L.length := ⟨L.length, rfl⟩
  have hinv : ∀ (i : Nat) (r : Int32 × Int32), i < zz 0 → L[i]? = some r → ¬ r.1 = key := fun i r h => absurd h (Nat.not_lt_zero i)
  generalize zz 0 = j at hk9 hinv ⊢
  induction k generalizing j with
  | zero =>
    refine zs_iload_n B dX5_place_2 (i := 3) rfl rfl ?_
    refine zs_aload_n B dX5_place_3 (i := 0) rfl rfl ?_
    refine zs_get B fX5_place_57 rfl rfl dX5_place_4 ?_
    refine zs_eq (wl' := zm_W 0 (a, v)) (st' := [.int (nI L.length), .int (nI j)]) rfl rfl (by rw [← hv]) rfl ?_
    refine zs_icmp_ge (tgt := 25) B dX5_place_7 (by decide) (fun h1 => ?_) (fun h1 => ?_)
    · refine zs_iconst (v := (-1)) B dX5_place_25 (by decide) ?_
      refine zs_zret hA B rfl rfl (by decide) (by decide) ⟨?_, rfl⟩ dX5_place_26
      have h2 : zl_find L key = L.length := zl_find_none (fun i r h => hinv i r (by have := (List.getElem?_eq_some_iff.mp h).1; omega) h)
      unfold zl_fi zf_i
      rw [h2, if_neg (Nat.lt_irrefl _)]
    · exact absurd (nI_le (by omega) (by omega)) h1
  | succ k ih =>
    obtain ⟨q, hq⟩ : ∃ q, L[j]? = some q := ⟨_, List.getElem?_eq_getElem (by omega)⟩
    refine zs_iload_n B dX5_place_2 (i := 3) rfl rfl ?_
    refine zs_aload_n B dX5_place_3 (i := 0) rfl rfl ?_
    refine zs_get B fX5_place_57 rfl rfl dX5_place_4 ?_
    refine zs_eq (wl' := zm_W 0 (a, v)) (st' := [.int (nI L.length), .int (nI j)]) rfl rfl (by rw [← hv]) rfl ?_
    refine zs_icmp_ge (tgt := 25) B dX5_place_7 (by decide) (fun h1 => ?_) (fun h1 => ?_)
    · exact absurd ((nI_leI (by omega) (by omega)).mp h1) (by omega)
    · refine zs_aload_n B dX5_place_10 (i := 1) rfl rfl ?_
      refine zs_iload_n B dX5_place_11 (i := 3) rfl rfl ?_
      refine zs_mget r j hr (by omega) rfl B dX5_place_12 ?_
      rw [hk j q hq]
      refine zs_iload_n B dX5_place_13 (i := 2) rfl rfl ?_
      refine zs_icmp_ne (tgt := 19) B dX5_place_14 (by decide) (fun h2 => ?_) (fun h2 => ?_)
      · refine zs_iinc B dX5_place_19 (i := 3) rfl (nI_1 j) (by decide) rfl ?_
        refine zs_goto (tgt := 2) B dX5_place_22 (by decide) ?_
        refine ih (j + 1) (by omega) (fun i r hi hri => ?_)
        by_cases hij : i = j
        · subst hij
          rw [hq] at hri
          cases hri
          exact h2
        · exact hinv i r (by omega) hri
      · refine zs_iload_n B dX5_place_17 (i := 3) rfl rfl ?_
        refine zs_zret hA B rfl rfl (by decide) (by decide) ⟨?_, rfl⟩ dX5_place_18
        have h3 : zl_find L key = j := zl_find_at hq h2 hinv
        unfold zl_fi zf_i
        rw [h3, if_pos (by omega)]
set_option maxHeartbeats 4000000 in
theorem zm_changes {l : Launch} (hl : l.stackTraces = false) (D : va_G) (dA : Nat → ClassId) (d : zm_D) (U : zm_U) (t : Int32) (hR : zm_R U t d) (hI : zm_I U) : zw_Sp l D dA yX5_changes wsX5_changes 3 0 0 [.ref 0] (zm_W 0 d)
    (fun r w => r = none ∧ ∃ d', zm_R (U.1, (U.1 :: U.2.1).take 8, (0, U.2.2.2)) t d' ∧ w = zm_W 0 d') (fun _ _ => False) := by
  refine zw_start hl (by decide) rfl rfl (Nat.le_of_ble_eq_true rfl) ?_
  intro pr e s m args below meth c ad A hA B
  obtain ⟨a, v⟩ := d
  obtain ⟨hP, ⟨n, hn, hH⟩, hw, ht⟩ := hR
  refine zs_aload_n B dX5_changes_0 (i := 0) rfl rfl ?_
  refine zs_callV0 (n := 0) B (zm_keeps hl D dA a v U.1 U.2.1 n hP hI.1.g hH hn (fun S hS => (hI.2 S hS).g)) gX5_changes_X5_keeps rfl ⟨rfl, by decide, by decide, by decide +kernel⟩ rfl rfl rfl (by rfl) ⟨(by exact Nat.le_of_ble_eq_true rfl), (by exact Nat.le_of_ble_eq_true rfl)⟩ (by exact Nat.le_of_ble_eq_true rfl) ⟨(by exact Nat.le_of_ble_eq_true rfl), (by exact Nat.le_of_ble_eq_true rfl)⟩ dX5_changes_1 (by rintro v w ⟨rfl, a9, ⟨n9, h8, rfl⟩, h9⟩; rfl) (fun _ _ h => h.elim) (fun _ _ h => h.elim) ?_
  rintro r w ⟨rfl, a', ⟨n', hH', rfl⟩, k1, k2, k3, k4⟩
  refine zs_aload_n B dX5_changes_4 (i := 0) rfl rfl ?_
  refine zs_iconst (v := 0) B dX5_changes_5 (by decide) ?_
  refine zs_put B (wX5_changes_74 rfl rfl) rfl (Nat.le_of_ble_eq_true rfl) dX5_changes_6 ?_
  refine zs_vret hA B rfl (by decide) (by decide) ⟨rfl, (a', (v.1, v.2.1, v.2.2.1, nI n', 0, v.2.2.2.2.2)), ⟨?_, ⟨n', rfl, hH'⟩, ?_, ht⟩, rfl⟩ dX5_changes_9
  · show zm_P U.1 (a' 1) (a' 2) (a' 3) _ _ _
    rw [k1, k2, k3]
    exact hP
  · obtain ⟨w1, w2, w3, n9, p9, w4, w5, w6, w7, w8⟩ := hw
    exact ⟨rfl, w2, Or.inl rfl, n9, p9, w4, w5, w6, w7, fun i x hx => by show a' 34 _ = x; rw [k4]; exact w8 i x hx⟩
