/-! the model: an entry is touched, goes out, comes in -/
theorem zm_key.erase {L : zr_L} {f : Nat → Int32} {p : Nat} (h : zm_key L f) (hp : p < L.length) : zm_key (L.eraseIdx p) (zf_sh f p (L.length - 1)) := by
  intro i q hq
  rw [List.getElem?_eraseIdx] at hq
  unfold zf_sh
  by_cases hi : i < p
  · rw [if_pos hi] at hq
    rw [if_neg (by omega)]
    exact h i q hq
  · rw [if_neg hi] at hq
    have := (List.getElem?_eq_some_iff.mp hq).1
    rw [if_pos (by omega)]
    exact h (i + 1) q hq
theorem zm_val.erase {L : zr_L} {f : Nat → Int32} {p : Nat} (h : zm_val L f) (hp : p < L.length) : zm_val (L.eraseIdx p) (zf_sh f p (L.length - 1)) := by
  intro i q hq
  rw [List.getElem?_eraseIdx] at hq
  unfold zf_sh
  by_cases hi : i < p
  · rw [if_pos hi] at hq
    rw [if_neg (by omega)]
    exact h i q hq
  · rw [if_neg hi] at hq
    have := (List.getElem?_eq_some_iff.mp hq).1
    rw [if_pos (by omega)]
    exact h (i + 1) q hq
theorem zm_key.app {L : zr_L} {f : Nat → Int32} (h : zm_key L f) {q : Int32 × Int32} {n : Nat} (hn : n = L.length) : zm_key (L ++ [q]) (upd f n q.1) := by
  subst hn
  intro i r hr
  unfold upd
  rcases Nat.lt_or_ge i L.length with hi | hi
  · rw [if_neg (by omega)]
    rw [List.getElem?_append_left hi] at hr
    exact h i r hr
  · rw [List.getElem?_append_right hi] at hr
    have h0 := (List.getElem?_eq_some_iff.mp hr).1
    have h1 : i - L.length = 0 := by
      rw [List.length_singleton] at h0
      omega
    rw [h1] at hr
    cases hr
    rw [if_pos (by omega)]
theorem zm_val.app {L : zr_L} {f : Nat → Int32} (h : zm_val L f) {q : Int32 × Int32} {n : Nat} (hn : n = L.length) : zm_val (L ++ [q]) (upd f n q.2) := by
  subst hn
  intro i r hr
  unfold upd
  rcases Nat.lt_or_ge i L.length with hi | hi
  · rw [if_neg (by omega)]
    rw [List.getElem?_append_left hi] at hr
    exact h i r hr
  · rw [List.getElem?_append_right hi] at hr
    have h0 := (List.getElem?_eq_some_iff.mp hr).1
    have h1 : i - L.length = 0 := by
      rw [List.length_singleton] at h0
      omega
    rw [h1] at hr
    cases hr
    rw [if_pos (by omega)]
theorem va_up_up {α : Type} (f : Nat → α) (k : Nat) (x y : α) : va_up (va_up f k x) k y = va_up f k y := by
  funext j
  unfold va_up
  split <;> rfl
theorem zm_sh_step (a : zm_A) (k : Nat) (f : Nat → Int32) {p q : Nat} (h : p ≤ q) : va_up (va_up a k (zf_sh f p q)) k (upd (va_up a k (zf_sh f p q) k) q (va_up a k (zf_sh f p q) k (q + 1))) = va_up a k (zf_sh f p (q + 1)) := by
  rw [va_up_up, va_up_self, zf_sh_s f h]
/-- the rows other than some are as they were -/
theorem zm_R.up {U : zm_U} {t : Int32} {a a' : zm_A} {v : zm_V} (h : zm_R U t (a, v)) {S : zp_L} (hh : ∀ k, 4 < k → a' k = a k) {x : Int32} (hP : zm_P S (a' 1) (a' 2) (a' 3) x v.2.1 v.2.2.1) : zm_R (S, U.2) t (a', (x, v.2)) := by
  obtain ⟨h1, ⟨n, hn, h2⟩, h3, h4⟩ := h
  refine ⟨hP, ⟨n, hn, h2.1, h2.2.1, fun j S' hj => ?_⟩, ?_, h4⟩
  · have := h2.2.2 j S' hj
    unfold zm_pg at this ⊢
    show zm_P S' (a' _) (a' _) (a' _) (a' 31 _) (a' 32 _) (a' 33 _)
    rw [hh _ (by omega), hh _ (by omega), hh _ (by omega), hh 31 (by omega), hh 32 (by omega), hh 33 (by omega)]
    exact this
  · obtain ⟨w1, w2, w3, n9, p9, w4, w5, w6, w7, w8⟩ := h3
    exact ⟨w1, w2, w3, n9, p9, w4, w5, w6, w7, fun i x hx => by show a' 34 _ = x; rw [hh 34 (by omega)]; exact w8 i x hx⟩
set_option maxHeartbeats 8000000 in
theorem zm_touched {l : Launch} (hl : l.stackTraces = false) (D : va_G) (dA : Nat → ClassId) (d : zm_D) (U : zm_U) (t : Int32) (hR : zm_R U t d) (hJ : zp_J U.1) (key : Int32) (hm : key ∈ U.1.1.map (·.1)) : zw_Sp l D dA yX5_touched wsX5_touched 1 0 0 [.ref 0, .int key] (zm_W 0 d)
    (fun r w => r = none ∧ ∃ d', zm_R (zp_touch U.1 key, U.2) t d' ∧ w = zm_W 0 d') (fun _ _ => False) := by
  refine zw_start hl (by decide) rfl rfl (Nat.le_of_ble_eq_true rfl) ?_
  intro pr e s m args below meth c ad A hA B
  obtain ⟨a, v⟩ := d
  obtain ⟨S, hw⟩ := U
  have hP : zm_P S (a 1) (a 2) (a 3) v.1 v.2.1 v.2.2.1 := hR.1
  have hJ : zp_J S := hJ
  have hm2 : key ∈ S.2.1.map (·.1) := (hJ.mem key).mpr hm
  have hp := zl_find_mem.mpr hm2
  have h12 := hJ.a12
  have hlen := hJ.len
  have hv : v.1 = nI S.2.1.length := by rw [hlen]; exact hP.1
  refine zs_aload_n B dX5_touched_0 (i := 0) rfl rfl ?_
  refine zs_aload_n B dX5_touched_1 (i := 0) rfl rfl ?_
  refine zs_get B fX5_touched_16 rfl rfl dX5_touched_2 ?_
  refine zs_iload_n B dX5_touched_5 (i := 1) rfl rfl ?_
  refine zs_callV0 (n := 2) B (zm_place hl D dA a v 3 zm_a3 S.2.1 hP.2.2.2.1 hv (by omega) key) gX5_touched_X5_place rfl ⟨rfl, by decide, by decide, by decide +kernel⟩ rfl rfl rfl (by rfl) ⟨(by exact Nat.le_of_ble_eq_true rfl), (by exact Nat.le_of_ble_eq_true rfl)⟩ (by exact Nat.le_of_ble_eq_true rfl) ⟨(by exact Nat.le_of_ble_eq_true rfl), (by exact Nat.le_of_ble_eq_true rfl)⟩ dX5_touched_6 (by rintro v w ⟨rfl, rfl⟩; rfl) (fun _ _ h => h.elim) (fun _ _ h => h.elim) ?_
  rintro r w ⟨rfl, rfl⟩
  have hfi : zl_fi S.2.1 key = nI (zl_find S.2.1 key) := if_pos hp
  rw [hfi]
  generalize hpp : zl_find S.2.1 key = p at hp ⊢
  refine zs_istore_n B dX5_touched_9 (i := 2) rfl (by decide) rfl ?_
  refine zs_iload_n B dX5_touched_10 (i := 2) rfl rfl ?_
  refine zs_istore_n B dX5_touched_11 (i := 3) rfl (by decide) rfl ?_
  refine zs_eq (wl' := zm_W 0 (va_up a 3 (zf_sh (a 3) p (p + zz 0)), v)) (lv' := [some (.ref 0), some (.int key), some (.int (nI p)), some (.int (nI (p + zz 0)))]) (by show zm_W 0 (a, v) = zm_W 0 (va_up a 3 (zf_sh (a 3) p p), v); rw [zf_sh_0, va_up_id]) rfl rfl rfl ?_
  obtain ⟨k, hk⟩ : ∃ k, k + (p + zz 0) + 1 = S.2.1.length := ⟨S.2.1.length - 1 - p, by show S.2.1.length - 1 - p + (p + 0) + 1 = _; omega⟩
  generalize zz 0 = j at hk ⊢
  induction k generalizing j with
  | zero =>
    refine zs_iload_n B dX5_touched_12 (i := 3) rfl rfl ?_
    refine zs_iconst (v := 1) B dX5_touched_13 (by decide) ?_
    refine zs_iadd B dX5_touched_14 ?_
    refine zs_topi (fun y hy => ?_)
    rw [nI_1] at hy
    subst hy
    refine zs_aload_n B dX5_touched_15 (i := 0) rfl rfl ?_
    refine zs_get B fX5_touched_57 rfl rfl dX5_touched_16 ?_
    refine zs_eq (wl' := zm_W 0 (va_up a 3 (zf_sh (a 3) p (p + j)), v)) (st' := [.int (nI S.2.1.length), .int (nI (p + j + 1))]) rfl rfl (by show [Value.int v.1, _] = _; rw [hv]) rfl ?_
    refine zs_icmp_ge (tgt := 42) B dX5_touched_19 (by decide) (fun h1 => ?_) (fun h1 => absurd (nI_le (show S.2.1.length ≤ p + j + 1 by omega) (by omega)) h1)
    refine zs_aload_n B dX5_touched_42 (i := 0) rfl rfl ?_
    refine zs_get B fX5_touched_16 rfl rfl dX5_touched_43 ?_
    refine zs_aload_n B dX5_touched_46 (i := 0) rfl rfl ?_
    refine zs_get B fX5_touched_57 rfl rfl dX5_touched_47 ?_
    refine zs_eq (wl' := zm_W 0 (va_up a 3 (zf_sh (a 3) p (p + j)), v)) (st' := [.int (nI (p + j + 1)), .ref 3]) rfl rfl (by rw [show p + j + 1 = S.2.1.length by omega, ← hv]) rfl ?_
    refine zs_iconst (v := 1) B dX5_touched_50 (by decide) ?_
    refine zs_isub B dX5_touched_51 ?_
    refine zs_topi (fun y hy => ?_)
    rw [nI_pred] at hy
    subst hy
    refine zs_iload_n B dX5_touched_52 (i := 1) rfl rfl ?_
    refine zs_mset 3 (p + j) zm_a3 (by omega) rfl B dX5_touched_53 ?_
    refine zs_vret hA B rfl (by decide) (by decide) ⟨rfl, (va_up a 3 (upd (zf_sh (a 3) p (S.2.1.length - 1)) (S.2.1.length - 1) key), v), ?_, ?_⟩ dX5_touched_54
    · obtain ⟨q, hq, hqk⟩ := zl_find_lt (zl_find_mem.mpr hm2)
      rw [hpp] at hq
      have hP2 : zm_P (zp_touch S key) (a 1) (a 2) (upd (zf_sh (a 3) p (S.2.1.length - 1)) (S.2.1.length - 1) key) v.1 v.2.1 v.2.2.1 := by
        refine ⟨hP.1, hP.2.1, hP.2.2.1, ?_, hP.2.2.2.2⟩
        show zm_key (zl_last S.2.1 (zl_fo S.2.1 key)) _
        rw [zl_fo_eq h12, if_pos (zl_find_mem.mpr hm2), hpp, zl_last_some hq, ← hqk]
        exact (hP.2.2.2.1.erase hp).app (by rw [List.length_eraseIdx_of_lt hp])
      exact hR.up (x := v.1) (fun k hk => va_up_ne _ _ (by omega)) hP2
    · rw [va_up_up, va_up_self, show p + j = S.2.1.length - 1 by omega]
  | succ k ih =>
    refine zs_iload_n B dX5_touched_12 (i := 3) rfl rfl ?_
    refine zs_iconst (v := 1) B dX5_touched_13 (by decide) ?_
    refine zs_iadd B dX5_touched_14 ?_
    refine zs_topi (fun y hy => ?_)
    rw [nI_1] at hy
    subst hy
    refine zs_aload_n B dX5_touched_15 (i := 0) rfl rfl ?_
    refine zs_get B fX5_touched_57 rfl rfl dX5_touched_16 ?_
    refine zs_eq (wl' := zm_W 0 (va_up a 3 (zf_sh (a 3) p (p + j)), v)) (st' := [.int (nI S.2.1.length), .int (nI (p + j + 1))]) rfl rfl (by show [Value.int v.1, _] = _; rw [hv]) rfl ?_
    refine zs_icmp_ge (tgt := 42) B dX5_touched_19 (by decide) (fun h1 => absurd ((nI_leI (by omega) (by omega)).mp h1) (by omega)) (fun h1 => ?_)
    refine zs_aload_n B dX5_touched_22 (i := 0) rfl rfl ?_
    refine zs_get B fX5_touched_16 rfl rfl dX5_touched_23 ?_
    refine zs_iload_n B dX5_touched_26 (i := 3) rfl rfl ?_
    refine zs_aload_n B dX5_touched_27 (i := 0) rfl rfl ?_
    refine zs_get B fX5_touched_16 rfl rfl dX5_touched_28 ?_
    refine zs_iload_n B dX5_touched_31 (i := 3) rfl rfl ?_
    refine zs_iconst (v := 1) B dX5_touched_32 (by decide) ?_
    refine zs_iadd B dX5_touched_33 ?_
    refine zs_topi (fun y hy => ?_)
    rw [nI_1] at hy
    subst hy
    refine zs_mget 3 (p + j + 1) zm_a3 (by omega) rfl B dX5_touched_34 ?_
    refine zs_mset 3 (p + j) zm_a3 (by omega) rfl B dX5_touched_35 ?_
    rw [zm_sh_step a 3 (a 3) (show p ≤ p + j by omega)]
    refine zs_iinc B dX5_touched_36 (i := 3) rfl (nI_1 (p + j)) (by decide) rfl ?_
    refine zs_goto (tgt := 12) B dX5_touched_39 (by decide) ?_
    exact ih (j + 1) (by omega)
