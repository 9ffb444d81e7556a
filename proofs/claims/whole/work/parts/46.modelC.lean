/-! the model: crossings, undo, isTrue, checksum -/
set_option maxHeartbeats 8000000 in
theorem zm_crossings {l : Launch} (hl : l.stackTraces = false) (D : va_G) (dA : Nat → ClassId) (d : zm_D) (U : zm_U) (t : Int32) (hR : zm_R U t d) (hI : zm_I U) :
    zw_Sp l D dA yX5_crossings wsX5_crossings 5 0 0 [.ref 0] (zm_W 0 d)
    (fun r w => ∃ d', (r = some (.int (nI (zl_cr U.1.1 U.1.2.1 U.1.2.1.length))) ∧ zm_R U 0 d') ∧ w = zm_W 0 d') (fun _ _ => False) := by
  refine zw_start hl (by decide) rfl rfl (Nat.le_of_ble_eq_true rfl) ?_
  intro pr e s m args below meth c ad A hA B
  obtain ⟨a, v⟩ := d
  have hR0 := hR.th 0
  have hJ := hI.1.1
  have h12 : U.1.1.length ≤ 12 := hJ.l12
  have hlen : U.1.2.1.length = U.1.1.length := hJ.len
  have hsym := zl_cr_sym h12 hJ.2.2.2.2.2.2.1 hJ.2.2.2.2.2.1
  have hP := hR0.1
  have hv : (zm_th v 0).1 = nI U.1.1.length := hP.1
  refine zs_aload_n B dX5_crossings_0 (i := 0) rfl rfl ?_
  refine zs_iconst (v := 0) B dX5_crossings_1 (by decide) ?_
  refine zs_put B (wX5_crossings_54 rfl rfl) rfl (Nat.le_of_ble_eq_true rfl) dX5_crossings_2 ?_
  refine zs_eq (wl' := zm_W 0 (a, zm_th v 0)) rfl rfl rfl rfl ?_
  generalize zm_th v 0 = v1 at hR0 hP hv ⊢
  refine zs_iconst (v := 0) B dX5_crossings_5 (by decide) ?_
  refine zs_istore_n B dX5_crossings_6 (i := 1) rfl (by decide) rfl ?_
  refine zs_iconst (v := 0) B dX5_crossings_7 (by decide) ?_
  refine zs_istore_n B dX5_crossings_8 (i := 2) rfl (by decide) rfl ?_
  generalize hAl : U.1.2.1 = Al at hsym hlen hP
  generalize hCC : U.1.1 = C at hsym hlen hP hv h12
  have k1 : zm_key C (a 1) := by rw [← hCC]; exact hR0.1.2.1
  have k3 : zm_key Al (a 3) := by rw [← hAl]; exact hR0.1.2.2.2.1
  have hvA : v1.1 = nI Al.length := by rw [hlen]; exact hv
  obtain ⟨o3, ho3⟩ : ∃ o : Option Value, o = none := ⟨_, rfl⟩
  obtain ⟨cnt, hcnt⟩ : ∃ cnt : Nat, cnt = zl_cr Al C (zz 0) := ⟨_, rfl⟩
  refine zs_eq (wl' := zm_W 0 (a, v1)) (lv' := [some (.ref 0), some (.int (nI cnt)), some (.int (nI (zz 0))), o3]) rfl (by rw [hcnt, ho3]; rfl) rfl rfl ?_
  obtain ⟨k, hk⟩ : ∃ k, k + zz 0 = C.length := ⟨C.length, rfl⟩
  clear ho3
  generalize zz 0 = j at hk hcnt ⊢
  induction k generalizing j cnt o3 with
  | zero =>
    refine zs_iload_n B dX5_crossings_9 (i := 2) rfl rfl ?_
    refine zs_aload_n B dX5_crossings_10 (i := 0) rfl rfl ?_
    refine zs_get B fX5_crossings_57 rfl rfl dX5_crossings_11 ?_
    refine zs_eq (wl' := zm_W 0 (a, v1)) (st' := [.int (nI C.length), .int (nI j)]) rfl rfl (by show [Value.int v1.1, _] = _; rw [hv]) rfl ?_
    refine zs_icmp_ge (tgt := 75) B dX5_crossings_14 (by decide) (fun h => ?_) (fun h => absurd (nI_le (show C.length ≤ j by omega) (by omega)) h)
    refine zs_iload_n B dX5_crossings_75 (i := 1) rfl rfl ?_
    refine zs_zret hA B rfl rfl (by decide) (by decide) ⟨(a, v1), ⟨?_, hR0⟩, rfl⟩ dX5_crossings_76
    rw [hcnt, show j = C.length by omega, hsym]
  | succ k ih =>
    obtain ⟨r, hr⟩ : ∃ r, C[j]? = some r := ⟨_, List.getElem?_eq_getElem (by omega)⟩
    refine zs_iload_n B dX5_crossings_9 (i := 2) rfl rfl ?_
    refine zs_aload_n B dX5_crossings_10 (i := 0) rfl rfl ?_
    refine zs_get B fX5_crossings_57 rfl rfl dX5_crossings_11 ?_
    refine zs_eq (wl' := zm_W 0 (a, v1)) (st' := [.int (nI C.length), .int (nI j)]) rfl rfl (by show [Value.int v1.1, _] = _; rw [hv]) rfl ?_
    refine zs_icmp_ge (tgt := 75) B dX5_crossings_14 (by decide) (fun h => absurd ((nI_leI (by omega) (by omega)).mp h) (by omega)) (fun h => ?_)
    refine zs_iconst (v := 0) B dX5_crossings_17 (by decide) ?_
    refine zs_istore_n B dX5_crossings_18 (i := 3) rfl (by decide) rfl ?_
    obtain ⟨x, hx⟩ : ∃ x, x = zl_fi Al r.1 := ⟨_, rfl⟩
    have hx2 : zl_cr Al C (j + 1) = cnt + zl_cr1 Al C x j := by
      rw [hcnt, hx, ← zl_at_some hr]
      rfl
    obtain ⟨c2, hc2⟩ : ∃ c2 : Nat, c2 = cnt + zl_cr1 Al C x (zz 0) := ⟨_, rfl⟩
    refine zs_eq (wl' := zm_W 0 (a, v1)) (lv' := [some (.ref 0), some (.int (nI c2)), some (.int (nI j)), some (.int (nI (zz 0)))]) rfl (by rw [hc2]; rfl) rfl rfl ?_
    obtain ⟨k2, hk2⟩ : ∃ k2, k2 + zz 0 = j := ⟨j, rfl⟩
    generalize zz 0 = i at hk2 hc2 ⊢
    induction k2 generalizing i c2 with
    | zero =>
      refine zs_iload_n B dX5_crossings_19 (i := 3) rfl rfl ?_
      refine zs_iload_n B dX5_crossings_20 (i := 2) rfl rfl ?_
      refine zs_icmp_ge (tgt := 69) B dX5_crossings_21 (by decide) (fun h => ?_) (fun h => absurd (nI_le (show j ≤ i by omega) (by omega)) h)
      refine zs_iinc B dX5_crossings_69 (i := 2) rfl (nI_1 j) (by decide) rfl ?_
      refine zs_goto (tgt := 9) B dX5_crossings_72 (by decide) ?_
      exact ih (some (.int (nI i))) c2 (j + 1) (by omega) (by rw [hc2, hx2, show i = j by omega])
    | succ k2 ih2 =>
      refine zs_iload_n B dX5_crossings_19 (i := 3) rfl rfl ?_
      refine zs_iload_n B dX5_crossings_20 (i := 2) rfl rfl ?_
      refine zs_icmp_ge (tgt := 69) B dX5_crossings_21 (by decide) (fun h => absurd ((nI_leI (by omega) (by omega)).mp h) (by omega)) (fun h => ?_)
      obtain ⟨r2, hr2⟩ : ∃ r2, C[i]? = some r2 := ⟨_, List.getElem?_eq_getElem (by omega)⟩
      refine zs_iload_n B dX5_crossings_24 (i := 1) rfl rfl ?_
      refine zs_aload_n B dX5_crossings_25 (i := 0) rfl rfl ?_
      refine zs_aload_n B dX5_crossings_26 (i := 0) rfl rfl ?_
      refine zs_get B fX5_crossings_16 rfl rfl dX5_crossings_27 ?_
      refine zs_aload_n B dX5_crossings_30 (i := 0) rfl rfl ?_
      refine zs_get B fX5_crossings_9 rfl rfl dX5_crossings_31 ?_
      refine zs_iload_n B dX5_crossings_34 (i := 3) rfl rfl ?_
      refine zs_mget 1 i zm_a1 (by omega) rfl B dX5_crossings_35 ?_
      rw [k1 i r2 hr2]
      refine zs_callV0 (n := 2) B (zm_place hl D dA a v1 3 zm_a3 Al k3 hvA (by omega) r2.1) gX5_crossings_X5_place rfl ⟨rfl, by decide, by decide, by decide +kernel⟩ rfl rfl rfl (by rfl) ⟨(by exact Nat.le_of_ble_eq_true rfl), (by exact Nat.le_of_ble_eq_true rfl)⟩ (by exact Nat.le_of_ble_eq_true rfl) ⟨(by exact Nat.le_of_ble_eq_true rfl), (by exact Nat.le_of_ble_eq_true rfl)⟩ dX5_crossings_36 (by rintro v w ⟨rfl, rfl⟩; rfl) (fun _ _ h => h.elim) (fun _ _ h => h.elim) ?_
      rintro r9 w ⟨rfl, rfl⟩
      refine zs_aload_n B dX5_crossings_39 (i := 0) rfl rfl ?_
      refine zs_aload_n B dX5_crossings_40 (i := 0) rfl rfl ?_
      refine zs_get B fX5_crossings_16 rfl rfl dX5_crossings_41 ?_
      refine zs_aload_n B dX5_crossings_44 (i := 0) rfl rfl ?_
      refine zs_get B fX5_crossings_9 rfl rfl dX5_crossings_45 ?_
      refine zs_iload_n B dX5_crossings_48 (i := 2) rfl rfl ?_
      refine zs_mget 1 j zm_a1 (by omega) rfl B dX5_crossings_49 ?_
      rw [k1 j r hr]
      refine zs_callV0 (n := 2) B (zm_place hl D dA a v1 3 zm_a3 Al k3 hvA (by omega) r.1) gX5_crossings_X5_place rfl ⟨rfl, by decide, by decide, by decide +kernel⟩ rfl rfl rfl (by rfl) ⟨(by exact Nat.le_of_ble_eq_true rfl), (by exact Nat.le_of_ble_eq_true rfl)⟩ (by exact Nat.le_of_ble_eq_true rfl) ⟨(by exact Nat.le_of_ble_eq_true rfl), (by exact Nat.le_of_ble_eq_true rfl)⟩ dX5_crossings_50 (by rintro v w ⟨rfl, rfl⟩; rfl) (fun _ _ h => h.elim) (fun _ _ h => h.elim) ?_
      rintro r9 w ⟨rfl, rfl⟩
      have e3 : zl_cr1 Al C x (i + 1) = zl_cr1 Al C x i + (if x < zl_fi Al r2.1 then 1 else 0) := by
        rw [← zl_at_some hr2]
        rfl
      rw [← hx]
      refine zs_icmp_le (tgt := 60) B dX5_crossings_53 (by decide) (fun h3 => ?_) (fun h3 => ?_)
      · have h4 : ¬ x < zl_fi Al r2.1 := by rw [Int32.lt_iff_toInt_lt]; have := Int32.le_iff_toInt_le.mp h3; omega
        rw [if_neg h4] at e3
        refine zs_iconst (v := 0) B dX5_crossings_60 (by decide) ?_
        refine zs_iadd B dX5_crossings_61 ?_
        refine zs_topi (fun y hy => ?_)
        have hy : y = nI c2 := by rw [hy]; exact Int32.add_zero _
        subst hy
        refine zs_istore_n B dX5_crossings_62 (i := 1) rfl (by decide) rfl ?_
        refine zs_iinc B dX5_crossings_63 (i := 3) rfl (nI_1 i) (by decide) rfl ?_
        refine zs_goto (tgt := 19) B dX5_crossings_66 (by decide) ?_
        exact ih2 c2 (i + 1) (by omega) (by rw [e3, hc2, Nat.add_zero])
      · have h4 : x < zl_fi Al r2.1 := by rw [Int32.lt_iff_toInt_lt]; rw [Int32.le_iff_toInt_le] at h3; omega
        rw [if_pos h4] at e3
        refine zs_iconst (v := 1) B dX5_crossings_56 (by decide) ?_
        refine zs_goto (tgt := 61) B dX5_crossings_57 (by decide) ?_
        refine zs_iadd B dX5_crossings_61 ?_
        refine zs_topi (fun y hy => ?_)
        have hy : y = nI (c2 + 1) := by rw [hy]; exact nI_1 c2
        subst hy
        refine zs_istore_n B dX5_crossings_62 (i := 1) rfl (by decide) rfl ?_
        refine zs_iinc B dX5_crossings_63 (i := 3) rfl (nI_1 i) (by decide) rfl ?_
        refine zs_goto (tgt := 19) B dX5_crossings_66 (by decide) ?_
        exact ih2 (c2 + 1) (i + 1) (by omega) (by rw [e3, hc2]; omega)
set_option maxHeartbeats 8000000 in
theorem zm_undo {l : Launch} (hl : l.stackTraces = false) (D : va_G) (dA : Nat → ClassId) (d : zm_D) (U : zm_U) (t : Int32) (hR : zm_R U t d) (hI : zm_I U) :
    zw_Sp l D dA yX5_undo wsX5_undo 5 0 0 [.ref 0] (zm_W 0 d)
    (fun r w => ∃ d', ((U.2.1 = [] ∧ r = some (.int 0) ∧ zm_R U 1 d') ∨ (∃ S' hist', U.2.1 = S' :: hist' ∧ r = some (.int (nI hist'.length)) ∧ zm_R (S', hist', (0, U.2.2.2)) 0 d')) ∧ w = zm_W 0 d') (fun _ _ => False) := by
  refine zw_start hl (by decide) rfl rfl (Nat.le_of_ble_eq_true rfl) ?_
  intro pr e s m args below meth c ad A hA B
  obtain ⟨a, v⟩ := d
  obtain ⟨S, hist, W⟩ := U
  have hR' := hR
  obtain ⟨hP, ⟨n9, hn, hH⟩, ⟨w1, w2, w3, n, p, w4, w5, w6, w7, w8⟩, ht⟩ := hR'
  have hn : v.2.2.2.1 = nI n9 := hn
  have hn9 : n9 = hist.length := hH.1
  have hl8 : hist.length ≤ 8 := hH.2.1
  refine zs_aload_n B dX5_undo_0 (i := 0) rfl rfl ?_
  refine zs_aload_n B dX5_undo_1 (i := 0) rfl rfl ?_
  refine zs_get B fX5_undo_64 rfl rfl dX5_undo_2 ?_
  refine zs_eq (wl' := zm_W 0 (a, v)) (st' := [.int (nI n9), .ref 0]) rfl rfl (by show [Value.int v.2.2.2.1, _] = _; rw [hn]) rfl ?_
  cases hist with
  | nil =>
    have h0 : n9 = 0 := hn9
    refine zs_if_le (tgt := 12) B dX5_undo_5 (by decide) (fun h => ?_) (fun h => absurd (show nI n9 ≤ 0 by rw [h0]; decide) h)
    refine zs_iconst (v := 0) B dX5_undo_12 (by decide) ?_
    refine zs_iconst (v := 1) B dX5_undo_13 (by decide) ?_
    refine zs_callV0 (n := 2) B (zm_no hl D dA a v false 1) gX5_undo_X5_no rfl ⟨rfl, by decide, by decide, by decide +kernel⟩ rfl rfl rfl (by rfl) ⟨(by exact Nat.le_of_ble_eq_true rfl), (by exact Nat.le_of_ble_eq_true rfl)⟩ (by exact Nat.le_of_ble_eq_true rfl) ⟨(by exact Nat.le_of_ble_eq_true rfl), (by exact Nat.le_of_ble_eq_true rfl)⟩ dX5_undo_14 (by rintro v w ⟨rfl, rfl⟩; rfl) (fun _ _ h => h.elim) (fun _ _ h => h.elim) ?_
    rintro r w ⟨rfl, rfl⟩
    refine zs_if_eq (tgt := 22) B dX5_undo_17 (by decide) (fun h => absurd h (by decide)) (fun _ => ?_)
    refine zs_iconst (v := 0) B dX5_undo_20 (by decide) ?_
    exact zs_zret hA B rfl rfl (by decide) (by decide) ⟨(a, zm_th v 1), Or.inl ⟨rfl, rfl, hR.th 1⟩, rfl⟩ dX5_undo_21
  | cons S' hist' =>
    have h1 : n9 = hist'.length + 1 := hn9
    have hl7 : hist'.length < 8 := by
      have : hist'.length + 1 ≤ 8 := hl8
      omega
    have hpg : zm_pg S' a hist'.length := by
      have := hH.2.2 0 S' rfl
      exact this
    have hg := (hI.2 S' List.mem_cons_self).g
    refine zs_if_le (tgt := 12) B dX5_undo_5 (by decide) (fun h => absurd ((nI_leI (a := n9) (b := 0) (by omega) (by omega)).mp h) (by omega)) (fun h => ?_)
    refine zs_iconst (v := 1) B dX5_undo_8 (by decide) ?_
    refine zs_goto (tgt := 13) B dX5_undo_9 (by decide) ?_
    refine zs_iconst (v := 1) B dX5_undo_13 (by decide) ?_
    refine zs_callV0 (n := 2) B (zm_no hl D dA a v true 1) gX5_undo_X5_no rfl ⟨rfl, by decide, by decide, by decide +kernel⟩ rfl rfl rfl (by rfl) ⟨(by exact Nat.le_of_ble_eq_true rfl), (by exact Nat.le_of_ble_eq_true rfl)⟩ (by exact Nat.le_of_ble_eq_true rfl) ⟨(by exact Nat.le_of_ble_eq_true rfl), (by exact Nat.le_of_ble_eq_true rfl)⟩ dX5_undo_14 (by rintro v w ⟨rfl, rfl⟩; rfl) (fun _ _ h => h.elim) (fun _ _ h => h.elim) ?_
    rintro r w ⟨rfl, rfl⟩
    refine zs_if_eq (tgt := 22) B dX5_undo_17 (by decide) (fun _ => ?_) (fun h => absurd rfl h)
    refine zs_aload_n B dX5_undo_22 (i := 0) rfl rfl ?_
    refine zs_dup B dX5_undo_23 rfl ?_
    refine zs_get B fX5_undo_64 rfl rfl dX5_undo_24 ?_
    refine zs_iconst (v := 1) B dX5_undo_27 (by decide) ?_
    refine zs_isub B dX5_undo_28 ?_
    refine zs_topi (fun y hy => ?_)
    have hy : y = nI hist'.length := by rw [hy]; show v.2.2.2.1 - 1 = _; rw [hn, h1]; exact nI_pred _
    subst hy
    refine zs_put B (wX5_undo_64 rfl rfl) rfl (Nat.le_of_ble_eq_true rfl) dX5_undo_29 ?_
    generalize hnn : hist'.length = nn at hl7 hpg ⊢
    refine zs_eq (wl' := zm_W 0 (a, zm_v3 (zm_th v 0) (nI nn))) rfl rfl rfl rfl ?_
    have hR1 : (1 : Nat) ≤ (zw_rm 5 0 0).frames ∧ 22 ≤ (zw_rm 5 0 0).locals := ⟨Nat.le_of_ble_eq_true rfl, Nat.le_of_ble_eq_true rfl⟩
    refine zs_aload_n B dX5_undo_32 (i := 0) rfl rfl ?_
    refine zs_get B fX5_undo_29 rfl rfl dX5_undo_33 ?_
    refine zs_aload_n B dX5_undo_36 (i := 0) rfl rfl ?_
    refine zs_get B fX5_undo_64 rfl rfl dX5_undo_37 ?_
    refine zs_mrow 4 nn (Or.inl rfl) hl7 rfl B dX5_undo_40 ?_
    refine zs_aload_n B dX5_undo_41 (i := 0) rfl rfl ?_
    refine zs_get B fX5_undo_9 rfl rfl dX5_undo_42 ?_
    refine zs_copy hl (5 + nn) 1 (zm_a5 hl7) zm_a1 (by omega) B gX5_undo_X5_copied hR1 (Nat.le_of_ble_eq_true rfl) ⟨Nat.le_refl _, Nat.le_refl _⟩ dX5_undo_45 ?_
    generalize ha1 : va_up a 1 (zf_cp 13 (a (5 + nn)) (a 1)) = a1
    refine zs_aload_n B dX5_undo_48 (i := 0) rfl rfl ?_
    refine zs_get B fX5_undo_32 rfl rfl dX5_undo_49 ?_
    refine zs_aload_n B dX5_undo_52 (i := 0) rfl rfl ?_
    refine zs_get B fX5_undo_64 rfl rfl dX5_undo_53 ?_
    refine zs_mrow 13 nn (Or.inr (Or.inl rfl)) hl7 rfl B dX5_undo_56 ?_
    refine zs_aload_n B dX5_undo_57 (i := 0) rfl rfl ?_
    refine zs_get B fX5_undo_13 rfl rfl dX5_undo_58 ?_
    refine zs_copy hl (14 + nn) 2 (zm_a14 hl7) zm_a2 (by omega) B gX5_undo_X5_copied hR1 (Nat.le_of_ble_eq_true rfl) ⟨Nat.le_refl _, Nat.le_refl _⟩ dX5_undo_61 ?_
    have e1 : a1 (14 + nn) = a (14 + nn) := by rw [← ha1, va_up_ne _ _ (by omega)]
    rw [e1]
    generalize ha2 : va_up a1 2 (zf_cp 13 (a (14 + nn)) (a1 2)) = a2
    refine zs_aload_n B dX5_undo_64 (i := 0) rfl rfl ?_
    refine zs_get B fX5_undo_35 rfl rfl dX5_undo_65 ?_
    refine zs_aload_n B dX5_undo_68 (i := 0) rfl rfl ?_
    refine zs_get B fX5_undo_64 rfl rfl dX5_undo_69 ?_
    refine zs_mrow 22 nn (Or.inr (Or.inr rfl)) hl7 rfl B dX5_undo_72 ?_
    refine zs_aload_n B dX5_undo_73 (i := 0) rfl rfl ?_
    refine zs_get B fX5_undo_16 rfl rfl dX5_undo_74 ?_
    refine zs_copy hl (23 + nn) 3 (zm_a23 hl7) zm_a3 (by omega) B gX5_undo_X5_copied hR1 (Nat.le_of_ble_eq_true rfl) ⟨Nat.le_refl _, Nat.le_refl _⟩ dX5_undo_77 ?_
    have e2 : a2 (23 + nn) = a (23 + nn) := by rw [← ha2, va_up_ne _ _ (by omega), ← ha1, va_up_ne _ _ (by omega)]
    rw [e2]
    generalize ha3 : va_up a2 3 (zf_cp 13 (a (23 + nn)) (a2 3)) = a3
    have k4 : ∀ k, 4 < k → a3 k = a k := fun k hk => by rw [← ha3, va_up_ne _ _ (by omega), ← ha2, va_up_ne _ _ (by omega), ← ha1, va_up_ne _ _ (by omega)]
    have j1 : a3 1 = zf_cp 13 (a (5 + nn)) (a 1) := by rw [← ha3, va_up_ne _ _ (by decide), ← ha2, va_up_ne _ _ (by decide), ← ha1, va_up_self]
    have j2 : a3 2 = zf_cp 13 (a (14 + nn)) (a1 2) := by rw [← ha3, va_up_ne _ _ (by decide), ← ha2, va_up_self]
    have j3 : a3 3 = zf_cp 13 (a (23 + nn)) (a2 3) := by rw [← ha3, va_up_self]
    have hPn : zm_P S' (a3 1) (a3 2) (a3 3) (a3 31 nn) (a3 32 nn) (a3 33 nn) := by
      rw [j1, j2, j3, k4 31 (by decide), k4 32 (by decide), k4 33 (by decide)]
      exact hpg.cp hg.1 hg.2.1 _ _ _
    have hby : a3 33 nn = 99 ∨ a3 33 nn = 97 := by rw [hPn.2.2.2.2.2]; exact hg.2.2
    refine zs_aload_n B dX5_undo_80 (i := 0) rfl rfl ?_
    refine zs_aload_n B dX5_undo_81 (i := 0) rfl rfl ?_
    refine zs_get B fX5_undo_38 rfl rfl dX5_undo_82 ?_
    refine zs_aload_n B dX5_undo_85 (i := 0) rfl rfl ?_
    refine zs_get B fX5_undo_64 rfl rfl dX5_undo_86 ?_
    refine zs_mget8 31 nn (Or.inl rfl) hl7 rfl B dX5_undo_89 ?_
    refine zs_put B (wX5_undo_57 rfl rfl) rfl (Nat.le_of_ble_eq_true rfl) dX5_undo_90 ?_
    refine zs_eq (wl' := zm_W 0 (a3, (a3 31 nn, (zm_v3 (zm_th v 0) (nI nn)).2))) rfl rfl rfl rfl ?_
    refine zs_aload_n B dX5_undo_93 (i := 0) rfl rfl ?_
    refine zs_aload_n B dX5_undo_94 (i := 0) rfl rfl ?_
    refine zs_get B fX5_undo_41 rfl rfl dX5_undo_95 ?_
    refine zs_aload_n B dX5_undo_98 (i := 0) rfl rfl ?_
    refine zs_get B fX5_undo_64 rfl rfl dX5_undo_99 ?_
    refine zs_mget8 32 nn (Or.inr rfl) hl7 rfl B dX5_undo_102 ?_
    refine zs_put B (wX5_undo_19 rfl rfl) rfl (Nat.le_of_ble_eq_true rfl) dX5_undo_103 ?_
    refine zs_eq (wl' := zm_W 0 (a3, (a3 31 nn, a3 32 nn, (zm_v3 (zm_th v 0) (nI nn)).2.2))) rfl rfl rfl rfl ?_
    refine zs_aload_n B dX5_undo_106 (i := 0) rfl rfl ?_
    refine zs_aload_n B dX5_undo_107 (i := 0) rfl rfl ?_
    refine zs_get B fX5_undo_44 rfl rfl dX5_undo_108 ?_
    refine zs_aload_n B dX5_undo_111 (i := 0) rfl rfl ?_
    refine zs_get B fX5_undo_64 rfl rfl dX5_undo_112 ?_
    refine zs_mgetC nn hl7 rfl B dX5_undo_115 ?_
    refine zs_put B (wX5_undo_23 (zb_o_nar hby).1 (zb_o_nar hby).2) rfl (Nat.le_of_ble_eq_true rfl) dX5_undo_116 ?_
    refine zs_aload_n B dX5_undo_119 (i := 0) rfl rfl ?_
    refine zs_iconst (v := 0) B dX5_undo_120 (by decide) ?_
    refine zs_put B (wX5_undo_74 rfl rfl) rfl (Nat.le_of_ble_eq_true rfl) dX5_undo_121 ?_
    refine zs_aload_n B dX5_undo_124 (i := 0) rfl rfl ?_
    refine zs_get B fX5_undo_64 rfl rfl dX5_undo_125 ?_
    refine zs_zret hA B rfl rfl (by decide) (by decide) ⟨(a3, (a3 31 nn, a3 32 nn, a3 33 nn, nI nn, 0, v.2.2.2.2.2.1, v.2.2.2.2.2.2.1, v.2.2.2.2.2.2.2.1, 0)), Or.inr ⟨S', hist', rfl, ?_, ?_⟩, rfl⟩ dX5_undo_128
    · rw [hnn]
      rfl
    · refine ⟨hPn, ⟨nn, rfl, hnn.symm, by show hist'.length ≤ 8; omega, fun j S2 hj => ?_⟩, ⟨rfl, w2, Or.inl rfl, n, p, w4, w5, w6, w7, fun i x hx => by show a3 34 _ = x; rw [k4 34 (by decide)]; exact w8 i x hx⟩, rfl⟩
      have h9 := hH.2.2 (j + 1) S2 hj
      have hj : hist'[j]? = some S2 := hj
      have hjl := (List.getElem?_eq_some_iff.mp hj).1
      have e9 : (S' :: hist').length - 1 - (j + 1) = hist'.length - 1 - j := by
        show hist'.length + 1 - 1 - (j + 1) = _
        omega
      rw [e9] at h9
      unfold zm_pg at h9 ⊢
      show zm_P S2 (a3 _) (a3 _) (a3 _) (a3 31 _) (a3 32 _) (a3 33 _)
      have g1 : a3 (5 + (hist'.length - 1 - j)) = a (5 + (hist'.length - 1 - j)) := k4 _ (by omega)
      have g2 : a3 (14 + (hist'.length - 1 - j)) = a (14 + (hist'.length - 1 - j)) := k4 _ (by omega)
      have g3 : a3 (23 + (hist'.length - 1 - j)) = a (23 + (hist'.length - 1 - j)) := k4 _ (by omega)
      rw [g1, g2, g3, k4 31 (by decide), k4 32 (by decide), k4 33 (by decide)]
      exact h9
theorem zm_isTrue {l : Launch} (hl : l.stackTraces = false) (D : va_G) (dA : Nat → ClassId) (d : zm_D) (U : zm_U) (t : Int32) (hR : zm_R U t d) :
    zw_Sp l D dA yX5_isTrue wsX5_isTrue 5 0 0 [.ref 0] (zm_W 0 d)
    (fun r w => ∃ d', (r = some (.int 1) ∧ zm_R U 0 d') ∧ w = zm_W 0 d') (fun _ _ => False) := by
  refine zw_start hl (by decide) rfl rfl (Nat.le_of_ble_eq_true rfl) ?_
  intro pr e s m args below meth c ad A hA B
  obtain ⟨a, v⟩ := d
  refine zs_aload_n B dX5_isTrue_0 (i := 0) rfl rfl ?_
  refine zs_iconst (v := 0) B dX5_isTrue_1 (by decide) ?_
  refine zs_put B (wX5_isTrue_54 rfl rfl) rfl (Nat.le_of_ble_eq_true rfl) dX5_isTrue_2 ?_
  refine zs_iconst (v := 1) B dX5_isTrue_5 (by decide) ?_
  exact zs_zret hA B rfl rfl (by decide) (by decide) ⟨(a, zm_th v 0), ⟨rfl, hR.th 0⟩, rfl⟩ dX5_isTrue_6
set_option maxHeartbeats 8000000 in
theorem zm_checksum {l : Launch} (hl : l.stackTraces = false) (D : va_G) (dA : Nat → ClassId) (d : zm_D) (U : zm_U) (t : Int32) (hR : zm_R U t d) (hI : zm_I U) :
    zw_Sp l D dA yX5_checksum wsX5_checksum 5 0 0 [.ref 0] (zm_W 0 d)
    (fun r w => ∃ d', (r = some (.long (zb_sum U.1 U.2.1.length)) ∧ zm_R U 0 d') ∧ w = zm_W 0 d') (fun _ _ => False) := by
  refine zw_start hl (by decide) rfl rfl (Nat.le_of_ble_eq_true rfl) ?_
  intro pr e s m args below meth c ad A hA B
  obtain ⟨a, v⟩ := d
  have hR0 := hR.th 0
  have hJ := hI.1.1
  have h12 : U.1.1.length ≤ 12 := hJ.l12
  have hlen : U.1.2.1.length = U.1.1.length := hJ.len
  refine zs_aload_n B dX5_checksum_0 (i := 0) rfl rfl ?_
  refine zs_iconst (v := 0) B dX5_checksum_1 (by decide) ?_
  refine zs_put B (wX5_checksum_54 rfl rfl) rfl (Nat.le_of_ble_eq_true rfl) dX5_checksum_2 ?_
  refine zs_eq (wl' := zm_W 0 (a, zm_th v 0)) rfl rfl rfl rfl ?_
  generalize zm_th v 0 = v1 at hR0 ⊢
  have hP : zm_P U.1 (a 1) (a 2) (a 3) v1.1 v1.2.1 v1.2.2.1 := hR0.1
  have hv : v1.1 = nI U.1.1.length := hP.1
  have hvA : v1.1 = nI U.1.2.1.length := by rw [hlen]; exact hv
  refine zs_ldc2 (v := 7) B dX5_checksum_5 (by decide +kernel) ?_
  refine zs_lstore_n B dX5_checksum_8 (i := 1) rfl (by decide) rfl ?_
  refine zs_iconst (v := 0) B dX5_checksum_9 (by decide) ?_
  refine zs_istore_n B dX5_checksum_10 (i := 3) rfl (by decide) rfl ?_
  obtain ⟨sm, hsm⟩ : ∃ sm : Int64, sm = 7 := ⟨_, rfl⟩
  refine zs_eq (wl' := zm_W 0 (a, v1)) (lv' := [some (.ref 0), some (.long sm), none, some (.int (nI (zz 0)))]) rfl (by rw [hsm]; rfl) rfl rfl ?_
  have hfin : zl_sum1 (U.1.1.drop (zz 0)) sm = zl_sum1 U.1.1 7 := by rw [hsm]; rfl
  obtain ⟨k, hk⟩ : ∃ k, k + zz 0 = U.1.1.length := ⟨U.1.1.length, rfl⟩
  clear hsm
  generalize zz 0 = j at hk hfin ⊢
  induction k generalizing j sm with
  | zero =>
    refine zs_iload_n B dX5_checksum_11 (i := 3) rfl rfl ?_
    refine zs_aload_n B dX5_checksum_12 (i := 0) rfl rfl ?_
    refine zs_get B fX5_checksum_57 rfl rfl dX5_checksum_13 ?_
    refine zs_eq (wl' := zm_W 0 (a, v1)) (st' := [.int (nI U.1.1.length), .int (nI j)]) rfl rfl (by show [Value.int v1.1, _] = _; rw [hv]) rfl ?_
    refine zs_icmp_ge (tgt := 51) B dX5_checksum_16 (by decide) (fun h => ?_) (fun h => absurd (nI_le (show U.1.1.length ≤ j by omega) (by omega)) h)
    rw [List.drop_eq_nil_of_le (by omega)] at hfin
    replace hfin : sm = zl_sum1 U.1.1 7 := hfin
    refine zs_iconst (v := 0) B dX5_checksum_51 (by decide) ?_
    refine zs_istore_n B dX5_checksum_52 (i := 3) rfl (by decide) rfl ?_
    refine zs_eq (wl' := zm_W 0 (a, v1)) (lv' := [some (.ref 0), some (.long sm), none, some (.int (nI (zz 0)))]) rfl rfl rfl rfl ?_
    have hfin2 : zl_sum2 (U.1.2.1.drop (zz 0)) sm = zl_sum2 U.1.2.1 (zl_sum1 U.1.1 7) := by rw [hfin]; rfl
    obtain ⟨k2, hk2⟩ : ∃ k2, k2 + zz 0 = U.1.2.1.length := ⟨U.1.2.1.length, rfl⟩
    clear hfin
    generalize zz 0 = i at hk2 hfin2 ⊢
    induction k2 generalizing i sm with
    | zero =>
      refine zs_iload_n B dX5_checksum_53 (i := 3) rfl rfl ?_
      refine zs_aload_n B dX5_checksum_54 (i := 0) rfl rfl ?_
      refine zs_get B fX5_checksum_57 rfl rfl dX5_checksum_55 ?_
      refine zs_eq (wl' := zm_W 0 (a, v1)) (st' := [.int (nI U.1.2.1.length), .int (nI i)]) rfl rfl (by show [Value.int v1.1, _] = _; rw [hvA]) rfl ?_
      refine zs_icmp_ge (tgt := 81) B dX5_checksum_58 (by decide) (fun h => ?_) (fun h => absurd (nI_le (show U.1.2.1.length ≤ i by omega) (by omega)) h)
      rw [List.drop_eq_nil_of_le (by omega)] at hfin2
      have hfin2 : sm = zl_sum2 U.1.2.1 (zl_sum1 U.1.1 7) := hfin2
      obtain ⟨n9, hn, hH⟩ := hR0.2.1
      refine zs_ldc2 (v := 31) B dX5_checksum_81 (by decide +kernel) ?_
      refine zs_lload_n B dX5_checksum_84 (i := 1) rfl rfl ?_
      refine zs_lmul B dX5_checksum_85 ?_
      refine zs_aload_n B dX5_checksum_86 (i := 0) rfl rfl ?_
      refine zs_get B fX5_checksum_19 rfl rfl dX5_checksum_87 ?_
      refine zs_i2l B dX5_checksum_90 ?_
      refine zs_ladd B dX5_checksum_91 ?_
      refine zs_lstore_n B dX5_checksum_92 (i := 1) rfl (by decide) rfl ?_
      refine zs_ldc2 (v := 31) B dX5_checksum_93 (by decide +kernel) ?_
      refine zs_lload_n B dX5_checksum_96 (i := 1) rfl rfl ?_
      refine zs_lmul B dX5_checksum_97 ?_
      refine zs_aload_n B dX5_checksum_98 (i := 0) rfl rfl ?_
      refine zs_get B fX5_checksum_23 rfl rfl dX5_checksum_99 ?_
      refine zs_i2l B dX5_checksum_102 ?_
      refine zs_ladd B dX5_checksum_103 ?_
      refine zs_lstore_n B dX5_checksum_104 (i := 1) rfl (by decide) rfl ?_
      refine zs_ldc2 (v := 31) B dX5_checksum_105 (by decide +kernel) ?_
      refine zs_lload_n B dX5_checksum_108 (i := 1) rfl rfl ?_
      refine zs_lmul B dX5_checksum_109 ?_
      refine zs_aload_n B dX5_checksum_110 (i := 0) rfl rfl ?_
      refine zs_get B fX5_checksum_64 rfl rfl dX5_checksum_111 ?_
      refine zs_i2l B dX5_checksum_114 ?_
      refine zs_ladd B dX5_checksum_115 ?_
      refine zs_lret hA B rfl (by decide) (by decide) ⟨(a, v1), ⟨?_, hR0⟩, rfl⟩ dX5_checksum_116
      unfold zb_sum
      rw [← hfin2, ← hP.2.2.2.2.1, ← hP.2.2.2.2.2, ← hH.1, ← hn, Int64.mul_comm sm 31]
      rw [Int64.mul_comm (31 * sm + _) 31, Int64.mul_comm (31 * (31 * sm + _) + _) 31]
    | succ k2 ih2 =>
      obtain ⟨r, hr⟩ : ∃ r, U.1.2.1[i]? = some r := ⟨_, List.getElem?_eq_getElem (by omega)⟩
      refine zs_iload_n B dX5_checksum_53 (i := 3) rfl rfl ?_
      refine zs_aload_n B dX5_checksum_54 (i := 0) rfl rfl ?_
      refine zs_get B fX5_checksum_57 rfl rfl dX5_checksum_55 ?_
      refine zs_eq (wl' := zm_W 0 (a, v1)) (st' := [.int (nI U.1.2.1.length), .int (nI i)]) rfl rfl (by show [Value.int v1.1, _] = _; rw [hvA]) rfl ?_
      refine zs_icmp_ge (tgt := 81) B dX5_checksum_58 (by decide) (fun h => absurd ((nI_leI (by omega) (by omega)).mp h) (by omega)) (fun h => ?_)
      refine zs_ldc2 (v := 31) B dX5_checksum_61 (by decide +kernel) ?_
      refine zs_lload_n B dX5_checksum_64 (i := 1) rfl rfl ?_
      refine zs_lmul B dX5_checksum_65 ?_
      refine zs_aload_n B dX5_checksum_66 (i := 0) rfl rfl ?_
      refine zs_get B fX5_checksum_16 rfl rfl dX5_checksum_67 ?_
      refine zs_iload_n B dX5_checksum_70 (i := 3) rfl rfl ?_
      refine zs_mget 3 i zm_a3 (by omega) rfl B dX5_checksum_71 ?_
      rw [hP.2.2.2.1 i r hr]
      refine zs_i2l B dX5_checksum_72 ?_
      refine zs_ladd B dX5_checksum_73 ?_
      refine zs_lstore_n B dX5_checksum_74 (i := 1) rfl (by decide) rfl ?_
      refine zs_iinc B dX5_checksum_75 (i := 3) rfl (nI_1 i) (by decide) rfl ?_
      refine zs_goto (tgt := 53) B dX5_checksum_78 (by decide) ?_
      rw [zl_drop_s hr] at hfin2
      rw [Int64.mul_comm 31 sm]
      exact ih2 _ (i + 1) (by omega) hfin2
  | succ k ih =>
    obtain ⟨r, hr⟩ : ∃ r, U.1.1[j]? = some r := ⟨_, List.getElem?_eq_getElem (by omega)⟩
    refine zs_iload_n B dX5_checksum_11 (i := 3) rfl rfl ?_
    refine zs_aload_n B dX5_checksum_12 (i := 0) rfl rfl ?_
    refine zs_get B fX5_checksum_57 rfl rfl dX5_checksum_13 ?_
    refine zs_eq (wl' := zm_W 0 (a, v1)) (st' := [.int (nI U.1.1.length), .int (nI j)]) rfl rfl (by show [Value.int v1.1, _] = _; rw [hv]) rfl ?_
    refine zs_icmp_ge (tgt := 51) B dX5_checksum_16 (by decide) (fun h => absurd ((nI_leI (by omega) (by omega)).mp h) (by omega)) (fun h => ?_)
    refine zs_ldc2 (v := 31) B dX5_checksum_19 (by decide +kernel) ?_
    refine zs_ldc2 (v := 31) B dX5_checksum_22 (by decide +kernel) ?_
    refine zs_lload_n B dX5_checksum_25 (i := 1) rfl rfl ?_
    refine zs_lmul B dX5_checksum_26 ?_
    refine zs_aload_n B dX5_checksum_27 (i := 0) rfl rfl ?_
    refine zs_get B fX5_checksum_9 rfl rfl dX5_checksum_28 ?_
    refine zs_iload_n B dX5_checksum_31 (i := 3) rfl rfl ?_
    refine zs_mget 1 j zm_a1 (by omega) rfl B dX5_checksum_32 ?_
    rw [hP.2.1 j r hr]
    refine zs_i2l B dX5_checksum_33 ?_
    refine zs_ladd B dX5_checksum_34 ?_
    refine zs_lmul B dX5_checksum_35 ?_
    refine zs_aload_n B dX5_checksum_36 (i := 0) rfl rfl ?_
    refine zs_get B fX5_checksum_13 rfl rfl dX5_checksum_37 ?_
    refine zs_iload_n B dX5_checksum_40 (i := 3) rfl rfl ?_
    refine zs_mget 2 j zm_a2 (by omega) rfl B dX5_checksum_41 ?_
    rw [hP.2.2.1 j r hr]
    refine zs_i2l B dX5_checksum_42 ?_
    refine zs_ladd B dX5_checksum_43 ?_
    refine zs_lstore_n B dX5_checksum_44 (i := 1) rfl (by decide) rfl ?_
    refine zs_iinc B dX5_checksum_45 (i := 3) rfl (nI_1 j) (by decide) rfl ?_
    refine zs_goto (tgt := 11) B dX5_checksum_48 (by decide) ?_
    rw [zl_drop_s hr] at hfin
    rw [Int64.mul_comm 31 sm, Int64.mul_comm 31 (sm * 31 + r.1.toInt64)]
    exact ih _ (j + 1) (by omega) hfin
