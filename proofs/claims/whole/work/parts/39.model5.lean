/-! the model: an entry goes out, one comes in -/
theorem zm_sh2 (a : zm_A) (f g : Nat → Int32) {p q : Nat} (h : p ≤ q) : va_up (va_up (va_up (va_up a 1 (zf_sh f p q)) 2 (zf_sh g p q)) 1 (upd (zf_sh f p q) q (zf_sh f p q (q + 1)))) 2 (upd (zf_sh g p q) q (zf_sh g p q (q + 1))) = va_up (va_up a 1 (zf_sh f p (q + 1))) 2 (zf_sh g p (q + 1)) := by
  rw [zf_sh_s f h, zf_sh_s g h]
  funext k
  unfold va_up
  by_cases h2 : k = 2
  · rw [if_pos h2, if_pos h2]
  · rw [if_neg h2, if_neg h2]
    by_cases h1 : k = 1
    · rw [if_pos h1, if_neg h2, if_pos h1]
    · rw [if_neg h1, if_neg h1, if_neg h2, if_neg h1]
set_option maxHeartbeats 8000000 in
theorem zm_out {l : Launch} (hl : l.stackTraces = false) (D : va_G) (dA : Nat → ClassId) (d : zm_D) (U : zm_U) (t : Int32) (hR : zm_R U t d) (h13 : U.1.1.length ≤ 13) (hlen : U.1.2.1.length = U.1.1.length) (key : Int32) (hp : zl_find U.1.1 key < U.1.1.length) (hp2 : zl_find U.1.2.1 key < U.1.2.1.length) :
    zw_Sp l D dA yX5_out wsX5_out 1 0 0 [.ref 0, .int key] (zm_W 0 d)
    (fun r w => r = none ∧ ∃ d', zm_R ((U.1.1.eraseIdx (zl_find U.1.1 key), U.1.2.1.eraseIdx (zl_find U.1.2.1 key), U.1.2.2), U.2) t d' ∧ w = zm_W 0 d') (fun _ _ => False) := by
  refine zw_start hl (by decide) rfl rfl (Nat.le_of_ble_eq_true rfl) ?_
  intro pr e s m args below meth c ad A hA B
  obtain ⟨a, v⟩ := d
  obtain ⟨S, hw⟩ := U
  have hP : zm_P S (a 1) (a 2) (a 3) v.1 v.2.1 v.2.2.1 := hR.1
  have h13 : S.1.length ≤ 13 := h13
  have hlen : S.2.1.length = S.1.length := hlen
  have hp : zl_find S.1 key < S.1.length := hp
  have hp2 : zl_find S.2.1 key < S.2.1.length := hp2
  have hv : v.1 = nI S.1.length := hP.1
  refine zs_aload_n B dX5_out_0 (i := 0) rfl rfl ?_
  refine zs_aload_n B dX5_out_1 (i := 0) rfl rfl ?_
  refine zs_get B fX5_out_9 rfl rfl dX5_out_2 ?_
  refine zs_iload_n B dX5_out_5 (i := 1) rfl rfl ?_
  refine zs_callV0 (n := 2) B (zm_place hl D dA a v 1 zm_a1 S.1 hP.2.1 hv h13 key) gX5_out_X5_place rfl ⟨rfl, by decide, by decide, by decide +kernel⟩ rfl rfl rfl (by rfl) ⟨(by exact Nat.le_of_ble_eq_true rfl), (by exact Nat.le_of_ble_eq_true rfl)⟩ (by exact Nat.le_of_ble_eq_true rfl) ⟨(by exact Nat.le_of_ble_eq_true rfl), (by exact Nat.le_of_ble_eq_true rfl)⟩ dX5_out_6 (by rintro v w ⟨rfl, rfl⟩; rfl) (fun _ _ h => h.elim) (fun _ _ h => h.elim) ?_
  rintro r w ⟨rfl, rfl⟩
  have hfi : zl_fi S.1 key = nI (zl_find S.1 key) := if_pos hp
  have hfi2 : zl_fi S.2.1 key = nI (zl_find S.2.1 key) := if_pos hp2
  rw [hfi]
  generalize hpp : zl_find S.1 key = p at hp ⊢
  generalize hpp2 : zl_find S.2.1 key = p2 at hp2 hfi2 ⊢
  refine zs_istore_n B dX5_out_9 (i := 2) rfl (by decide) rfl ?_
  refine zs_iload_n B dX5_out_10 (i := 2) rfl rfl ?_
  refine zs_istore_n B dX5_out_11 (i := 3) rfl (by decide) rfl ?_
  refine zs_eq (wl' := zm_W 0 (va_up (va_up a 1 (zf_sh (a 1) p (p + zz 0))) 2 (zf_sh (a 2) p (p + zz 0)), v)) (lv' := [some (.ref 0), some (.int key), some (.int (nI p)), some (.int (nI (p + zz 0)))]) (by show zm_W 0 (a, v) = zm_W 0 (va_up (va_up a 1 (zf_sh (a 1) p p)) 2 (zf_sh (a 2) p p), v); rw [zf_sh_0, zf_sh_0, va_up_id, va_up_id]) rfl rfl rfl ?_
  obtain ⟨k, hk⟩ : ∃ k, k + (p + zz 0) + 1 = S.1.length := ⟨S.1.length - 1 - p, by show S.1.length - 1 - p + (p + 0) + 1 = _; omega⟩
  generalize zz 0 = j at hk ⊢
  induction k generalizing j with
  | zero =>
    refine zs_iload_n B dX5_out_12 (i := 3) rfl rfl ?_
    refine zs_iconst (v := 1) B dX5_out_13 (by decide) ?_
    refine zs_iadd B dX5_out_14 ?_
    refine zs_topi (fun y hy => ?_)
    rw [nI_1] at hy
    subst hy
    have e1 : p + j = S.1.length - 1 := by omega
    generalize ha1 : va_up (va_up a 1 (zf_sh (a 1) p (p + j))) 2 (zf_sh (a 2) p (p + j)) = a1
    have k1 : a1 1 = zf_sh (a 1) p (S.1.length - 1) := by rw [← ha1, ← e1, va_up_ne _ _ (by decide), va_up_self]
    have k2 : a1 2 = zf_sh (a 2) p (S.1.length - 1) := by rw [← ha1, ← e1, va_up_self]
    have k3 : ∀ k, k ≠ 1 → k ≠ 2 → a1 k = a k := fun k h1 h2 => by rw [← ha1, va_up_ne _ _ h2, va_up_ne _ _ h1]
    refine zs_aload_n B dX5_out_15 (i := 0) rfl rfl ?_
    refine zs_get B fX5_out_57 rfl rfl dX5_out_16 ?_
    refine zs_eq (wl' := zm_W 0 (a1, v)) (st' := [.int (nI S.1.length), .int (nI (p + j + 1))]) rfl rfl (by show [Value.int v.1, _] = _; rw [hv]) rfl ?_
    refine zs_icmp_ge (tgt := 56) B dX5_out_19 (by decide) (fun h1 => ?_) (fun h1 => absurd (nI_le (show S.1.length ≤ p + j + 1 by omega) (by omega)) h1)
    have hv2 : v.1 = nI S.2.1.length := by rw [hlen]; exact hv
    refine zs_aload_n B dX5_out_56 (i := 0) rfl rfl ?_
    refine zs_aload_n B dX5_out_57 (i := 0) rfl rfl ?_
    refine zs_get B fX5_out_16 rfl rfl dX5_out_58 ?_
    refine zs_iload_n B dX5_out_61 (i := 1) rfl rfl ?_
    refine zs_callV0 (n := 2) B (zm_place hl D dA a1 v 3 zm_a3 S.2.1 (by rw [k3 3 (by decide) (by decide)]; exact hP.2.2.2.1) hv2 (by omega) key) gX5_out_X5_place rfl ⟨rfl, by decide, by decide, by decide +kernel⟩ rfl rfl rfl (by rfl) ⟨(by exact Nat.le_of_ble_eq_true rfl), (by exact Nat.le_of_ble_eq_true rfl)⟩ (by exact Nat.le_of_ble_eq_true rfl) ⟨(by exact Nat.le_of_ble_eq_true rfl), (by exact Nat.le_of_ble_eq_true rfl)⟩ dX5_out_62 (by rintro v w ⟨rfl, rfl⟩; rfl) (fun _ _ h => h.elim) (fun _ _ h => h.elim) ?_
    rintro r w ⟨rfl, rfl⟩
    rw [hfi2]
    refine zs_istore_n B dX5_out_65 (i := 2) rfl (by decide) rfl ?_
    refine zs_iload_n B dX5_out_66 (i := 2) rfl rfl ?_
    refine zs_istore_n B dX5_out_67 (i := 3) rfl (by decide) rfl ?_
    refine zs_eq (wl' := zm_W 0 (va_up a1 3 (zf_sh (a1 3) p2 (p2 + zz 0)), v)) (lv' := [some (.ref 0), some (.int key), some (.int (nI p2)), some (.int (nI (p2 + zz 0)))]) (by show zm_W 0 (a1, v) = zm_W 0 (va_up a1 3 (zf_sh (a1 3) p2 p2), v); rw [zf_sh_0, va_up_id]) rfl rfl rfl ?_
    obtain ⟨k', hk'⟩ : ∃ k', k' + (p2 + zz 0) + 1 = S.2.1.length := ⟨S.2.1.length - 1 - p2, by show S.2.1.length - 1 - p2 + (p2 + 0) + 1 = _; omega⟩
    generalize zz 0 = i at hk' ⊢
    induction k' generalizing i with
    | zero =>
      refine zs_iload_n B dX5_out_68 (i := 3) rfl rfl ?_
      refine zs_iconst (v := 1) B dX5_out_69 (by decide) ?_
      refine zs_iadd B dX5_out_70 ?_
      refine zs_topi (fun y hy => ?_)
      rw [nI_1] at hy
      subst hy
      refine zs_aload_n B dX5_out_71 (i := 0) rfl rfl ?_
      refine zs_get B fX5_out_57 rfl rfl dX5_out_72 ?_
      refine zs_eq (wl' := zm_W 0 (va_up a1 3 (zf_sh (a1 3) p2 (p2 + i)), v)) (st' := [.int (nI S.2.1.length), .int (nI (p2 + i + 1))]) rfl rfl (by show [Value.int v.1, _] = _; rw [hv2]) rfl ?_
      refine zs_icmp_ge (tgt := 98) B dX5_out_75 (by decide) (fun h1 => ?_) (fun h1 => absurd (nI_le (show S.2.1.length ≤ p2 + i + 1 by omega) (by omega)) h1)
      refine zs_aload_n B dX5_out_98 (i := 0) rfl rfl ?_
      refine zs_dup B dX5_out_99 rfl ?_
      refine zs_get B fX5_out_57 rfl rfl dX5_out_100 ?_
      refine zs_eq (wl' := zm_W 0 (va_up a1 3 (zf_sh (a1 3) p2 (p2 + i)), v)) (st' := [.int (nI (p2 + i + 1)), .ref 0]) rfl rfl (by show [Value.int v.1, _] = _; rw [hv2, show S.2.1.length = p2 + i + 1 by omega]) rfl ?_
      refine zs_iconst (v := 1) B dX5_out_103 (by decide) ?_
      refine zs_isub B dX5_out_104 ?_
      refine zs_topi (fun y hy => ?_)
      rw [nI_pred] at hy
      subst hy
      refine zs_put B (wX5_out_57 rfl rfl) rfl (Nat.le_of_ble_eq_true rfl) dX5_out_105 ?_
      refine zs_vret hA B rfl (by decide) (by decide) ⟨rfl, (va_up a1 3 (zf_sh (a1 3) p2 (p2 + i)), (nI (p2 + i), v.2)), ?_, rfl⟩ dX5_out_108
      have hP2 : zm_P (S.1.eraseIdx p, S.2.1.eraseIdx p2, S.2.2) ((va_up a1 3 (zf_sh (a1 3) p2 (p2 + i))) 1) ((va_up a1 3 (zf_sh (a1 3) p2 (p2 + i))) 2) ((va_up a1 3 (zf_sh (a1 3) p2 (p2 + i))) 3) (nI (p2 + i)) v.2.1 v.2.2.1 := by
        rw [va_up_self, va_up_ne _ _ (by decide), va_up_ne _ _ (by decide), k1, k2, k3 3 (by decide) (by decide), show p2 + i = S.2.1.length - 1 by omega]
        refine ⟨?_, hP.2.1.erase hp, hP.2.2.1.erase hp, hP.2.2.2.1.erase hp2, hP.2.2.2.2⟩
        show _ = nI (S.1.eraseIdx p).length
        rw [List.length_eraseIdx_of_lt hp, hlen]
      exact hR.up (fun k hk => by rw [va_up_ne _ _ (by omega)]; exact k3 k (by omega) (by omega)) hP2
    | succ k' ih' =>
      refine zs_iload_n B dX5_out_68 (i := 3) rfl rfl ?_
      refine zs_iconst (v := 1) B dX5_out_69 (by decide) ?_
      refine zs_iadd B dX5_out_70 ?_
      refine zs_topi (fun y hy => ?_)
      rw [nI_1] at hy
      subst hy
      refine zs_aload_n B dX5_out_71 (i := 0) rfl rfl ?_
      refine zs_get B fX5_out_57 rfl rfl dX5_out_72 ?_
      refine zs_eq (wl' := zm_W 0 (va_up a1 3 (zf_sh (a1 3) p2 (p2 + i)), v)) (st' := [.int (nI S.2.1.length), .int (nI (p2 + i + 1))]) rfl rfl (by show [Value.int v.1, _] = _; rw [hv2]) rfl ?_
      refine zs_icmp_ge (tgt := 98) B dX5_out_75 (by decide) (fun h1 => absurd ((nI_leI (by omega) (by omega)).mp h1) (by omega)) (fun h1 => ?_)
      refine zs_aload_n B dX5_out_78 (i := 0) rfl rfl ?_
      refine zs_get B fX5_out_16 rfl rfl dX5_out_79 ?_
      refine zs_iload_n B dX5_out_82 (i := 3) rfl rfl ?_
      refine zs_aload_n B dX5_out_83 (i := 0) rfl rfl ?_
      refine zs_get B fX5_out_16 rfl rfl dX5_out_84 ?_
      refine zs_iload_n B dX5_out_87 (i := 3) rfl rfl ?_
      refine zs_iconst (v := 1) B dX5_out_88 (by decide) ?_
      refine zs_iadd B dX5_out_89 ?_
      refine zs_topi (fun y hy => ?_)
      rw [nI_1] at hy
      subst hy
      refine zs_mget 3 (p2 + i + 1) zm_a3 (by omega) rfl B dX5_out_90 ?_
      refine zs_mset 3 (p2 + i) zm_a3 (by omega) rfl B dX5_out_91 ?_
      rw [zm_sh_step a1 3 (a1 3) (show p2 ≤ p2 + i by omega)]
      refine zs_iinc B dX5_out_92 (i := 3) rfl (nI_1 (p2 + i)) (by decide) rfl ?_
      refine zs_goto (tgt := 68) B dX5_out_95 (by decide) ?_
      exact ih' (i + 1) (by omega)
  | succ k ih =>
    refine zs_iload_n B dX5_out_12 (i := 3) rfl rfl ?_
    refine zs_iconst (v := 1) B dX5_out_13 (by decide) ?_
    refine zs_iadd B dX5_out_14 ?_
    refine zs_topi (fun y hy => ?_)
    rw [nI_1] at hy
    subst hy
    refine zs_aload_n B dX5_out_15 (i := 0) rfl rfl ?_
    refine zs_get B fX5_out_57 rfl rfl dX5_out_16 ?_
    refine zs_eq (wl' := zm_W 0 (va_up (va_up a 1 (zf_sh (a 1) p (p + j))) 2 (zf_sh (a 2) p (p + j)), v)) (st' := [.int (nI S.1.length), .int (nI (p + j + 1))]) rfl rfl (by show [Value.int v.1, _] = _; rw [hv]) rfl ?_
    refine zs_icmp_ge (tgt := 56) B dX5_out_19 (by decide) (fun h1 => absurd ((nI_leI (by omega) (by omega)).mp h1) (by omega)) (fun h1 => ?_)
    refine zs_aload_n B dX5_out_22 (i := 0) rfl rfl ?_
    refine zs_get B fX5_out_9 rfl rfl dX5_out_23 ?_
    refine zs_iload_n B dX5_out_26 (i := 3) rfl rfl ?_
    refine zs_aload_n B dX5_out_27 (i := 0) rfl rfl ?_
    refine zs_get B fX5_out_9 rfl rfl dX5_out_28 ?_
    refine zs_iload_n B dX5_out_31 (i := 3) rfl rfl ?_
    refine zs_iconst (v := 1) B dX5_out_32 (by decide) ?_
    refine zs_iadd B dX5_out_33 ?_
    refine zs_topi (fun y hy => ?_)
    rw [nI_1] at hy
    subst hy
    refine zs_mget 1 (p + j + 1) zm_a1 (by omega) rfl B dX5_out_34 ?_
    refine zs_mset 1 (p + j) zm_a1 (by omega) rfl B dX5_out_35 ?_
    refine zs_aload_n B dX5_out_36 (i := 0) rfl rfl ?_
    refine zs_get B fX5_out_13 rfl rfl dX5_out_37 ?_
    refine zs_iload_n B dX5_out_40 (i := 3) rfl rfl ?_
    refine zs_aload_n B dX5_out_41 (i := 0) rfl rfl ?_
    refine zs_get B fX5_out_13 rfl rfl dX5_out_42 ?_
    refine zs_iload_n B dX5_out_45 (i := 3) rfl rfl ?_
    refine zs_iconst (v := 1) B dX5_out_46 (by decide) ?_
    refine zs_iadd B dX5_out_47 ?_
    refine zs_topi (fun y hy => ?_)
    rw [nI_1] at hy
    subst hy
    refine zs_mget 2 (p + j + 1) zm_a2 (by omega) rfl B dX5_out_48 ?_
    refine zs_mset 2 (p + j) zm_a2 (by omega) rfl B dX5_out_49 ?_
    refine zs_iinc B dX5_out_50 (i := 3) rfl (nI_1 (p + j)) (by decide) rfl ?_
    refine zs_goto (tgt := 12) B dX5_out_53 (by decide) ?_
    refine zs_eq (wl' := zm_W 0 (va_up (va_up a 1 (zf_sh (a 1) p (p + (j + 1)))) 2 (zf_sh (a 2) p (p + (j + 1))), v)) ?_ rfl rfl rfl (ih (j + 1) (by omega))
    have e1 := zm_sh2 a (a 1) (a 2) (show p ≤ p + j by omega)
    show _ = zm_W 0 (va_up (va_up a 1 (zf_sh (a 1) p (p + j + 1))) 2 (zf_sh (a 2) p (p + j + 1)), v)
    rw [← e1]
    rfl
theorem zm_rowR {S : zp_L} {a : zm_A} {sz li wy : Int32} (h : zm_P S (a 1) (a 2) (a 3) sz li wy) {o : Int32} (ho : o = 99 ∨ o = 97) : zm_key (zp_row S o) (a (zm_ro o)) := by
  unfold zp_row zm_ro
  rcases ho with rfl | rfl
  · exact h.2.1
  · exact h.2.2.2.1
theorem zm_roA (o : Int32) : zm_ar (zm_ro o) := by
  unfold zm_ro
  split
  · exact zm_a1
  · exact zm_a3
theorem zm_first {S : zp_L} (hJ : zp_J S) (h0 : 0 < S.1.length) {q : Int32 × Int32} (hq : (zp_row S S.2.2.2)[0]? = some q) : zp_first S = q.1 := by
  unfold zp_first
  have := zl_key_at (j := 0) (L := zp_row S S.2.2.2) (by rw [zp_row_len hJ]; exact hJ.l12) hq
  rw [nI_0] at this
  exact this
theorem zl_find_app {L : zr_L} {k : Int32 × Int32} {g : Int32} (h : zl_find L g < L.length) (hN : ((L ++ [k]).map (·.1)).Nodup) : zl_find (L ++ [k]) g = zl_find L g := by
  obtain ⟨q, h1, h2⟩ := zl_find_lt h
  have := zl_find_nodup hN (j := zl_find L g) (by rw [List.getElem?_append_left h]; exact h1)
  rw [h2] at this
  exact this
set_option maxHeartbeats 8000000 in
theorem zm_comesIn {l : Launch} (hl : l.stackTraces = false) (D : va_G) (dA : Nat → ClassId) (d : zm_D) (U : zm_U) (t : Int32) (hR : zm_R U t d) (hI : zp_I U.1) (key x : Int32) (hk : key ∉ U.1.1.map (·.1)) :
    zw_Sp l D dA yX5_comesIn wsX5_comesIn 2 0 0 [.ref 0, .int key, .int x] (zm_W 0 d)
    (fun r w => r = some (.int (zp_gone U.1)) ∧ ∃ d', zm_R (zp_let U.1 key x, U.2) t d' ∧ w = zm_W 0 d') (fun _ _ => False) := by
  refine zw_start hl (by decide) rfl rfl (Nat.le_of_ble_eq_true rfl) ?_
  intro pr e s m args below meth c ad A hA B
  obtain ⟨a, v⟩ := d
  obtain ⟨S, hw⟩ := U
  have hP : zm_P S (a 1) (a 2) (a 3) v.1 v.2.1 v.2.2.1 := hR.1
  have hI : zp_I S := hI
  have hJ := hI.1
  have hk : key ∉ S.1.map (·.1) := hk
  have h12 := hJ.l12
  have hv : v.1 = nI S.1.length := hP.1
  refine zs_aload_n B dX5_comesIn_0 (i := 0) rfl rfl ?_
  refine zs_get B fX5_comesIn_9 rfl rfl dX5_comesIn_1 ?_
  refine zs_aload_n B dX5_comesIn_4 (i := 0) rfl rfl ?_
  refine zs_get B fX5_comesIn_57 rfl rfl dX5_comesIn_5 ?_
  refine zs_iload_n B dX5_comesIn_8 (i := 1) rfl rfl ?_
  refine zs_mset 1 S.1.length zm_a1 (by omega) hv B dX5_comesIn_9 ?_
  refine zs_aload_n B dX5_comesIn_10 (i := 0) rfl rfl ?_
  refine zs_get B fX5_comesIn_13 rfl rfl dX5_comesIn_11 ?_
  refine zs_aload_n B dX5_comesIn_14 (i := 0) rfl rfl ?_
  refine zs_get B fX5_comesIn_57 rfl rfl dX5_comesIn_15 ?_
  refine zs_iload_n B dX5_comesIn_18 (i := 2) rfl rfl ?_
  refine zs_mset 2 S.1.length zm_a2 (by omega) hv B dX5_comesIn_19 ?_
  refine zs_aload_n B dX5_comesIn_20 (i := 0) rfl rfl ?_
  refine zs_get B fX5_comesIn_16 rfl rfl dX5_comesIn_21 ?_
  refine zs_aload_n B dX5_comesIn_24 (i := 0) rfl rfl ?_
  refine zs_get B fX5_comesIn_57 rfl rfl dX5_comesIn_25 ?_
  refine zs_iload_n B dX5_comesIn_28 (i := 1) rfl rfl ?_
  refine zs_mset 3 S.1.length zm_a3 (by omega) hv B dX5_comesIn_29 ?_
  generalize ha1 : va_up (va_up (va_up a 1 _) 2 _) 3 _ = a1
  have k1 : a1 1 = upd (a 1) S.1.length key := by rw [← ha1]; rfl
  have k2 : a1 2 = upd (a 2) S.1.length x := by rw [← ha1]; rfl
  have k3 : a1 3 = upd (a 3) S.1.length key := by rw [← ha1]; rfl
  have k4 : ∀ k, 4 < k → a1 k = a k := fun k hk => by rw [← ha1, va_up_ne _ _ (by omega), va_up_ne _ _ (by omega), va_up_ne _ _ (by omega)]
  refine zs_aload_n B dX5_comesIn_30 (i := 0) rfl rfl ?_
  refine zs_dup B dX5_comesIn_31 rfl ?_
  refine zs_get B fX5_comesIn_57 rfl rfl dX5_comesIn_32 ?_
  refine zs_iconst (v := 1) B dX5_comesIn_35 (by decide) ?_
  refine zs_iadd B dX5_comesIn_36 ?_
  refine zs_topi (fun y hy => ?_)
  have hy : y = nI (S.1.length + 1) := by rw [hy, hv]; exact nI_1 _
  subst hy
  refine zs_put B (wX5_comesIn_57 rfl rfl) rfl (Nat.le_of_ble_eq_true rfl) dX5_comesIn_37 ?_
  refine zs_aload_n B dX5_comesIn_40 (i := 0) rfl rfl ?_
  refine zs_get B fX5_comesIn_57 rfl rfl dX5_comesIn_41 ?_
  refine zs_aload_n B dX5_comesIn_44 (i := 0) rfl rfl ?_
  refine zs_get B fX5_comesIn_19 rfl rfl dX5_comesIn_45 ?_
  have hR1 : zm_R (zp_app S key x, hw) t (a1, (nI (S.1.length + 1), v.2)) := by
    refine hR.up k4 ?_
    rw [k1, k2, k3]
    refine ⟨?_, hP.2.1.app rfl, hP.2.2.1.app rfl, hP.2.2.2.1.app (q := (key, x)) hJ.len.symm, hP.2.2.2.2⟩
    show _ = nI (S.1 ++ [(key, x)]).length
    rw [List.length_append]
    rfl
  have hmm : v.2.1 = nI (zp_mm S) := hP.2.2.2.2.1.trans hJ.1
  have hm12 := hJ.2.2.1
  refine zs_eq (wl' := zm_W 0 (a1, (nI (S.1.length + 1), v.2))) (st' := [.int (nI (zp_mm S)), .int (nI (S.1.length + 1))]) rfl rfl (by rw [← hmm]) rfl ?_
  refine zs_icmp_gt (tgt := 53) B dX5_comesIn_48 (by decide) (fun h => ?_) (fun h => ?_)
  · have hlt : ¬ S.1.length < zp_mm S := fun q => Int32.not_lt.mpr (nI_le (show S.1.length + 1 ≤ zp_mm S by omega) (by omega)) h
    have h0 : 0 < S.1.length := by have := hJ.2.1; omega
    obtain ⟨q0, hq0⟩ : ∃ q0, (zp_row S S.2.2.2)[0]? = some q0 := ⟨_, List.getElem?_eq_getElem (by rw [zp_row_len hJ]; exact h0)⟩
    have hfirst := zm_first hJ h0 hq0
    have hmem := zp_first_mem hJ h0
    have hrow1 : (zp_row (zp_app S key x) S.2.2.2)[0]? = some q0 := by
      have e9 : zp_row (zp_app S key x) S.2.2.2 = zp_row S S.2.2.2 ++ [(key, x)] := by
        unfold zp_row zp_app
        split <;> rfl
      rw [e9, List.getElem?_append_left (by rw [zp_row_len hJ]; exact h0)]
      exact hq0
    have hkey := zm_rowR hR1.1 hJ.2.2.2.1 0 q0 hrow1
    have hway : v.2.2.1 = S.2.2.2 := hP.2.2.2.2.2
    refine zs_aload_n B dX5_comesIn_53 (i := 0) rfl rfl ?_
    refine zs_aload_n B dX5_comesIn_54 (i := 0) rfl rfl ?_
    refine zs_get B fX5_comesIn_23 rfl rfl dX5_comesIn_55 ?_
    refine zs_callV0 (n := 1) B (zm_rowM hl D dA (a1, (nI (S.1.length + 1), v.2)) v.2.2.1) gX5_comesIn_X5_row rfl ⟨rfl, by decide, by decide, by decide +kernel⟩ rfl rfl rfl (by rfl) ⟨(by exact Nat.le_of_ble_eq_true rfl), (by exact Nat.le_of_ble_eq_true rfl)⟩ (by exact Nat.le_of_ble_eq_true rfl) ⟨(by exact Nat.le_of_ble_eq_true rfl), (by exact Nat.le_of_ble_eq_true rfl)⟩ dX5_comesIn_58 (by rintro v w ⟨rfl, rfl⟩; rfl) (fun _ _ h => h.elim) (fun _ _ h => h.elim) ?_
    rintro r w ⟨rfl, rfl⟩
    rw [hway]
    refine zs_iconst (v := 0) B dX5_comesIn_61 (by decide) ?_
    refine zs_mget (zm_ro S.2.2.2) 0 (zm_roA _) (by decide) rfl B dX5_comesIn_62 ?_
    rw [show a1 (zm_ro S.2.2.2) 0 = zp_first S from hkey.trans hfirst.symm]
    refine zs_istore_n B dX5_comesIn_63 (i := 3) rfl (by decide) rfl ?_
    refine zs_aload_n B dX5_comesIn_64 (i := 0) rfl rfl ?_
    refine zs_iload_n B dX5_comesIn_65 (i := 3) rfl rfl ?_
    have hNC : ((S.1 ++ [(key, x)]).map (·.1)).Nodup := by
      rw [List.map_append]
      exact List.nodup_append.mpr ⟨hJ.2.2.2.2.2.2.1, by simp, fun y hy z hz e => by
        simp at hz
        subst hz
        subst e
        exact hk hy⟩
    have hNA : ((S.2.1 ++ [(key, x)]).map (·.1)).Nodup := by
      rw [List.map_append]
      exact List.nodup_append.mpr ⟨hJ.nodA, by simp, fun y hy z hz e => by
        simp at hz
        subst hz
        subst e
        exact hk ((hJ.mem _).mp hy)⟩
    have f1 : zl_find S.1 (zp_first S) < S.1.length := zl_find_mem.mpr hmem
    have f2 : zl_find S.2.1 (zp_first S) < S.2.1.length := zl_find_mem.mpr ((hJ.mem _).mpr hmem)
    have g1 := zl_find_app f1 hNC
    have g2 := zl_find_app f2 hNA
    refine zs_callV0 (n := 1) B (zm_out hl D dA (a1, (nI (S.1.length + 1), v.2)) (zp_app S key x, hw) t hR1 (by show (S.1 ++ [(key, x)]).length ≤ 13; rw [List.length_append]; show S.1.length + 1 ≤ 13; omega) (by show (S.2.1 ++ [(key, x)]).length = (S.1 ++ [(key, x)]).length; rw [List.length_append, List.length_append, hJ.len]) (zp_first S) (by show zl_find (S.1 ++ [(key, x)]) _ < (S.1 ++ [(key, x)]).length; rw [g1, List.length_append]; omega) (by show zl_find (S.2.1 ++ [(key, x)]) _ < (S.2.1 ++ [(key, x)]).length; rw [g2, List.length_append]; omega)) gX5_comesIn_X5_out rfl ⟨rfl, by decide, by decide, by decide +kernel⟩ rfl rfl rfl (by rfl) ⟨(by exact Nat.le_of_ble_eq_true rfl), (by exact Nat.le_of_ble_eq_true rfl)⟩ (by exact Nat.le_of_ble_eq_true rfl) ⟨(by exact Nat.le_of_ble_eq_true rfl), (by exact Nat.le_of_ble_eq_true rfl)⟩ dX5_comesIn_66 (by rintro v w ⟨rfl, x9, h9, rfl⟩; rfl) (fun _ _ h => h.elim) (fun _ _ h => h.elim) ?_
    rintro r w ⟨rfl, d', hd', rfl⟩
    refine zs_iload_n B dX5_comesIn_69 (i := 3) rfl rfl ?_
    refine zs_zret hA B rfl rfl (by decide) (by decide) ⟨?_, d', ?_, rfl⟩ dX5_comesIn_70
    · show _ = some (Value.int (zp_gone S))
      unfold zp_gone
      rw [if_neg hlt]
    · have e1 : zp_let S key x = ((S.1 ++ [(key, x)]).eraseIdx (zl_find (S.1 ++ [(key, x)]) (zp_first S)), (S.2.1 ++ [(key, x)]).eraseIdx (zl_find (S.2.1 ++ [(key, x)]) (zp_first S)), S.2.2) := by
        unfold zp_let
        rw [if_neg hlt, g1, g2, List.eraseIdx_append_of_lt_length f1, List.eraseIdx_append_of_lt_length f2]
        unfold zp_app zp_drop zp_take
        rw [zl_close_eq hJ.l12, zl_close_eq hJ.a12]
      show zm_R (zp_let S key x, hw) t d'
      rw [e1]
      exact hd'
  · have hlt : S.1.length < zp_mm S := by
      rcases Nat.lt_or_ge S.1.length (zp_mm S) with q | q
      · exact q
      · exact absurd (nI_lt (show zp_mm S < S.1.length + 1 by omega) (by omega)) h
    refine zs_iconst (v := (-1)) B dX5_comesIn_51 (by decide) ?_
    refine zs_zret hA B rfl rfl (by decide) (by decide) ⟨?_, (a1, (nI (S.1.length + 1), v.2)), ?_, rfl⟩ dX5_comesIn_52
    · show _ = some (Value.int (zp_gone S))
      unfold zp_gone
      rw [if_pos hlt]
    · show zm_R (zp_let S key x, hw) t _
      unfold zp_let
      rw [if_pos hlt]
      exact hR1
