/-! the model: moves and crossings -/
theorem zl_fi_inj {C : zr_L} (hC : C.length ≤ 12) {x y : Int32} (hx : x ∈ C.map (·.1)) (hy : y ∈ C.map (·.1)) (h : zl_fi C x = zl_fi C y) : x = y := by
  have h1 := zl_find_mem.mpr hx
  have h2 := zl_find_mem.mpr hy
  rw [zl_fi_in h1, zl_fi_in h2, nI_eq (by omega) (by omega)] at h
  obtain ⟨q, q1, q2⟩ := zl_find_lt h1
  obtain ⟨r, r1, r2⟩ := zl_find_lt h2
  rw [h, r1] at q1
  cases q1
  rw [← q2, ← r2]
theorem zm_ltne {x y : Int32} (h : x ≤ y) (hne : x ≠ y) : x < y := by
  rw [Int32.lt_iff_toInt_lt]
  rw [Int32.le_iff_toInt_le] at h
  have : x.toInt ≠ y.toInt := fun q => hne (Int32.toInt_inj.mp q)
  omega
set_option maxHeartbeats 8000000 in
theorem zm_staying {l : Launch} (hl : l.stackTraces = false) (D : va_G) (dA : Nat → ClassId) (d : zm_D) (U : zm_U) (t : Int32) (hR : zm_R U t d) (hJ : zp_J U.1) :
    zw_Sp l D dA yX5_staying wsX5_staying 1 0 0 [.ref 0] (zm_W 0 d)
    (fun r w => r = some (.int (nI (zl_stay U.1.1 U.1.2.1 (-1)))) ∧ w = zm_W 0 d) (fun _ _ => False) := by
  refine zw_start hl (by decide) rfl rfl (Nat.le_of_ble_eq_true rfl) ?_
  intro pr e s m args below meth c ad A hA B
  obtain ⟨a, v⟩ := d
  obtain ⟨⟨C, Al, ml⟩, hw⟩ := U
  have hP : zm_P (C, Al, ml) (a 1) (a 2) (a 3) v.1 v.2.1 v.2.2.1 := hR.1
  have hJ : zp_J (C, Al, ml) := hJ
  have hv : v.1 = nI C.length := hP.1
  have h12 : C.length ≤ 12 := hJ.l12
  have hlen : Al.length = C.length := hJ.len
  have hNA : (Al.map (·.1)).Nodup := hJ.nodA
  have hin : ∀ q ∈ Al, q.1 ∈ C.map (·.1) := fun q hq => (hJ.mem q.1).mp (List.mem_map.mpr ⟨q, hq, rfl⟩)
  refine zs_iconst (v := 0) B dX5_staying_0 (by decide) ?_
  refine zs_istore_n B dX5_staying_1 (i := 1) rfl (by decide) rfl ?_
  refine zs_iconst (v := (-1)) B dX5_staying_2 (by decide) ?_
  refine zs_istore_n B dX5_staying_3 (i := 2) rfl (by decide) rfl ?_
  obtain ⟨last, hlast⟩ : ∃ last : Int32, last = -1 := ⟨_, rfl⟩
  refine zs_eq (wl' := zm_W 0 (a, v)) (lv' := [some (.ref 0), some (.int (nI (zz 0))), some (.int last)]) rfl (by rw [hlast]; rfl) rfl rfl ?_
  have hfin : zz 0 + zl_stay C (Al.drop (zz 0)) last = zl_stay C Al (-1) := by rw [hlast]; exact Nat.zero_add _
  have hne : ∀ q ∈ Al.drop (zz 0), zl_fi C q.1 ≠ last := fun q hq e9 => by
    rw [hlast] at e9
    have := zl_find_mem.mpr (hin q (List.mem_of_mem_drop hq))
    exact absurd ((zl_fi_ge h12 q.1).mpr this) (by rw [e9]; decide)
  clear hlast
  show zw_k pr l e _ s m args below meth c _ D dA A ad _ _ _ _ _ _ _ _
  obtain ⟨k, hk⟩ : ∃ k, k + zz 0 = Al.length := ⟨Al.length, rfl⟩
  generalize zz 0 = j at hfin hne hk ⊢
  induction k generalizing j last with
  | zero =>
    rw [List.drop_eq_nil_of_le (by omega)] at hfin
    refine zs_iload_n B dX5_staying_4 (i := 1) rfl rfl ?_
    refine zs_aload_n B dX5_staying_5 (i := 0) rfl rfl ?_
    refine zs_get B fX5_staying_57 rfl rfl dX5_staying_6 ?_
    refine zs_eq (wl' := zm_W 0 (a, v)) (st' := [.int (nI C.length), .int (nI j)]) rfl rfl (by show [Value.int v.1, _] = _; rw [hv]) rfl ?_
    refine zs_icmp_ge (tgt := 51) B dX5_staying_9 (by decide) (fun h => ?_) (fun h => absurd (nI_le (show C.length ≤ j by omega) (by omega)) h)
    refine zs_iload_n B dX5_staying_51 (i := 1) rfl rfl ?_
    refine zs_zret hA B rfl rfl (by decide) (by decide) ⟨?_, rfl⟩ dX5_staying_52
    show _ = some (Value.int (nI (zl_stay C Al (-1))))
    rw [← hfin]
    rfl
  | succ k ih =>
    obtain ⟨q, hq⟩ : ∃ q, Al[j]? = some q := ⟨_, List.getElem?_eq_getElem (by omega)⟩
    rw [zl_drop_s hq] at hfin hne
    have hqn := hne q List.mem_cons_self
    have hqk := hP.2.2.2.1 j q hq
    refine zs_iload_n B dX5_staying_4 (i := 1) rfl rfl ?_
    refine zs_aload_n B dX5_staying_5 (i := 0) rfl rfl ?_
    refine zs_get B fX5_staying_57 rfl rfl dX5_staying_6 ?_
    refine zs_eq (wl' := zm_W 0 (a, v)) (st' := [.int (nI C.length), .int (nI j)]) rfl rfl (by show [Value.int v.1, _] = _; rw [hv]) rfl ?_
    refine zs_icmp_ge (tgt := 51) B dX5_staying_9 (by decide) (fun h => absurd ((nI_leI (by omega) (by omega)).mp h) (by omega)) (fun h => ?_)
    refine zs_aload_n B dX5_staying_12 (i := 0) rfl rfl ?_
    refine zs_aload_n B dX5_staying_13 (i := 0) rfl rfl ?_
    refine zs_get B fX5_staying_9 rfl rfl dX5_staying_14 ?_
    refine zs_aload_n B dX5_staying_17 (i := 0) rfl rfl ?_
    refine zs_get B fX5_staying_16 rfl rfl dX5_staying_18 ?_
    refine zs_iload_n B dX5_staying_21 (i := 1) rfl rfl ?_
    refine zs_mget 3 j zm_a3 (by omega) rfl B dX5_staying_22 ?_
    rw [hqk]
    refine zs_callV0 (n := 2) B (zm_place hl D dA a v 1 zm_a1 C hP.2.1 hv (by omega) q.1) gX5_staying_X5_place rfl ⟨rfl, by decide, by decide, by decide +kernel⟩ rfl rfl rfl (by rfl) ⟨(by exact Nat.le_of_ble_eq_true rfl), (by exact Nat.le_of_ble_eq_true rfl)⟩ (by exact Nat.le_of_ble_eq_true rfl) ⟨(by exact Nat.le_of_ble_eq_true rfl), (by exact Nat.le_of_ble_eq_true rfl)⟩ dX5_staying_23 (by rintro v w ⟨rfl, rfl⟩; rfl) (fun _ _ h => h.elim) (fun _ _ h => h.elim) ?_
    rintro r w ⟨rfl, rfl⟩
    refine zs_iload_n B dX5_staying_26 (i := 2) rfl rfl ?_
    refine zs_icmp_le (tgt := 51) B dX5_staying_27 (by decide) (fun h2 => ?_) (fun h2 => ?_)
    · have hlt := zm_ltne h2 hqn
      refine zs_iload_n B dX5_staying_51 (i := 1) rfl rfl ?_
      refine zs_zret hA B rfl rfl (by decide) (by decide) ⟨?_, rfl⟩ dX5_staying_52
      show _ = some (Value.int (nI (zl_stay C Al (-1))))
      rw [← hfin]
      unfold zl_stay
      rw [if_pos hlt]
      rfl
    · have hnlt : ¬ zl_fi C q.1 < last := fun q9 => h2 (by rw [Int32.le_iff_toInt_le]; rw [Int32.lt_iff_toInt_lt] at q9; omega)
      refine zs_aload_n B dX5_staying_30 (i := 0) rfl rfl ?_
      refine zs_aload_n B dX5_staying_31 (i := 0) rfl rfl ?_
      refine zs_get B fX5_staying_9 rfl rfl dX5_staying_32 ?_
      refine zs_aload_n B dX5_staying_35 (i := 0) rfl rfl ?_
      refine zs_get B fX5_staying_16 rfl rfl dX5_staying_36 ?_
      refine zs_iload_n B dX5_staying_39 (i := 1) rfl rfl ?_
      refine zs_mget 3 j zm_a3 (by omega) rfl B dX5_staying_40 ?_
      rw [hqk]
      refine zs_callV0 (n := 2) B (zm_place hl D dA a v 1 zm_a1 C hP.2.1 hv (by omega) q.1) gX5_staying_X5_place rfl ⟨rfl, by decide, by decide, by decide +kernel⟩ rfl rfl rfl (by rfl) ⟨(by exact Nat.le_of_ble_eq_true rfl), (by exact Nat.le_of_ble_eq_true rfl)⟩ (by exact Nat.le_of_ble_eq_true rfl) ⟨(by exact Nat.le_of_ble_eq_true rfl), (by exact Nat.le_of_ble_eq_true rfl)⟩ dX5_staying_41 (by rintro v w ⟨rfl, rfl⟩; rfl) (fun _ _ h => h.elim) (fun _ _ h => h.elim) ?_
      rintro r w ⟨rfl, rfl⟩
      refine zs_istore_n B dX5_staying_44 (i := 2) rfl (by decide) rfl ?_
      refine zs_iinc B dX5_staying_45 (i := 1) rfl (nI_1 j) (by decide) rfl ?_
      refine zs_goto (tgt := 4) B dX5_staying_48 (by decide) ?_
      refine ih (zl_fi C q.1) (j + 1) ?_ (fun r hr e9 => ?_) (by omega)
      · rw [← hfin]
        show _ = j + (if zl_fi C q.1 < last then 0 else zl_stay C (Al.drop (j + 1)) (zl_fi C q.1) + 1)
        rw [if_neg hnlt]
        omega
      · have hr2 := List.mem_of_mem_drop hr
        have hqm := List.mem_of_getElem? hq
        have e8 := zl_fi_inj h12 (hin r hr2) (hin q hqm) e9
        obtain ⟨i, hi⟩ := List.getElem?_of_mem hr
        rw [List.getElem?_drop] at hi
        have g1 := zl_find_nodup hNA hi
        have g2 := zl_find_nodup hNA hq
        rw [e8, g2] at g1
        omega
set_option maxHeartbeats 8000000 in
theorem zm_moves {l : Launch} (hl : l.stackTraces = false) (D : va_G) (dA : Nat → ClassId) (d : zm_D) (U : zm_U) (t : Int32) (hR : zm_R U t d) (hI : zm_I U) :
    zw_Sp l D dA yX5_moves wsX5_moves 5 0 0 [.ref 0] (zm_W 0 d)
    (fun r w => ∃ d', (r = some (.int (nI U.1.1.length - nI (zl_stay U.1.1 U.1.2.1 (-1)))) ∧ zm_R U 0 d') ∧ w = zm_W 0 d') (fun _ _ => False) := by
  refine zw_start hl (by decide) rfl rfl (Nat.le_of_ble_eq_true rfl) ?_
  intro pr e s m args below meth c ad A hA B
  obtain ⟨a, v⟩ := d
  have hv : v.1 = nI U.1.1.length := hR.1.1
  refine zs_aload_n B dX5_moves_0 (i := 0) rfl rfl ?_
  refine zs_iconst (v := 0) B dX5_moves_1 (by decide) ?_
  refine zs_put B (wX5_moves_54 rfl rfl) rfl (Nat.le_of_ble_eq_true rfl) dX5_moves_2 ?_
  refine zs_eq (wl' := zm_W 0 (a, zm_th v 0)) rfl rfl rfl rfl ?_
  refine zs_aload_n B dX5_moves_5 (i := 0) rfl rfl ?_
  refine zs_get B fX5_moves_57 rfl rfl dX5_moves_6 ?_
  refine zs_aload_n B dX5_moves_9 (i := 0) rfl rfl ?_
  refine zs_callV0 (n := 0) B (zm_staying hl D dA (a, zm_th v 0) U 0 (hR.th 0) hI.1.1) gX5_moves_X5_staying rfl ⟨rfl, by decide, by decide, by decide +kernel⟩ rfl rfl rfl (by rfl) ⟨(by exact Nat.le_of_ble_eq_true rfl), (by exact Nat.le_of_ble_eq_true rfl)⟩ (by exact Nat.le_of_ble_eq_true rfl) ⟨(by exact Nat.le_of_ble_eq_true rfl), (by exact Nat.le_of_ble_eq_true rfl)⟩ dX5_moves_10 (by rintro v w ⟨rfl, rfl⟩; rfl) (fun _ _ h => h.elim) (fun _ _ h => h.elim) ?_
  rintro r w ⟨rfl, rfl⟩
  refine zs_isub B dX5_moves_13 ?_
  refine zs_zret hA B rfl rfl (by decide) (by decide) ⟨(a, zm_th v 0), ⟨?_, hR.th 0⟩, rfl⟩ dX5_moves_14
  rw [← hv]
  rfl
theorem zm_mvix {n k : Nat} (hn : n ≤ 12) (hk : k ≤ n) (i : Int32) : (0 ≤ i ∧ i ≤ nI n - nI k - 1) ↔ (zf_ix i (n - k)).isSome = true := by
  rw [pk_sub hk]
  exact zm_ixle (by omega) i
theorem zm_mvix2 {n k : Nat} (hn : n ≤ 12) (hk : k ≤ n) (i : Int32) : (¬ i < 0 ∧ i < nI n - nI k) ↔ (zf_ix i (n - k)).isSome = true := by
  rw [pk_sub hk, Int32.lt_iff_toInt_lt, Int32.lt_iff_toInt_lt, nI_toInt (by omega)]
  have h0 : (0 : Int32).toInt = 0 := by decide
  rw [h0]
  unfold zf_ix
  split
  · rename_i h
    exact ⟨fun _ => rfl, fun _ => ⟨by omega, h.2⟩⟩
  · rename_i h
    exact ⟨fun q => absurd ⟨by omega, q.2⟩ h, fun q => by cases q⟩
set_option maxHeartbeats 8000000 in
theorem zm_move {l : Launch} (hl : l.stackTraces = false) (D : va_G) (dA : Nat → ClassId) (d : zm_D) (U : zm_U) (t : Int32) (hR : zm_R U t d) (hI : zm_I U) (i : Int32) :
    zw_Sp l D dA yX5_move wsX5_move 5 0 0 [.ref 0, .int i] (zm_W 0 d)
    (fun r w => ∃ d', ((¬ (¬ i < 0 ∧ i < nI U.1.1.length - nI (zl_stay U.1.1 U.1.2.1 (-1))) ∧ r = some (.int 0) ∧ zm_R U 1 d') ∨ ((¬ i < 0 ∧ i < nI U.1.1.length - nI (zl_stay U.1.1 U.1.2.1 (-1))) ∧ r = some (.int (zl_key U.1.2.1 (zf_ix (nI (zl_stay U.1.1 U.1.2.1 (-1)) + i) U.1.2.1.length))) ∧ zm_R U 0 d')) ∧ w = zm_W 0 d') (fun _ _ => False) := by
  refine zw_start hl (by decide) rfl rfl (Nat.le_of_ble_eq_true rfl) ?_
  intro pr e s m args below meth c ad A hA B
  obtain ⟨a, v⟩ := d
  have hJ := hI.1.1
  have h12 := hJ.l12
  have hv : v.1 = nI U.1.1.length := hR.1.1
  have hst : zl_stay U.1.1 U.1.2.1 (-1) ≤ U.1.1.length := by rw [← hJ.len]; exact zl_stay_le _ _ _
  refine zs_aload_n B dX5_move_0 (i := 0) rfl rfl ?_
  refine zs_callV0 (n := 0) B (zm_staying hl D dA (a, v) U t hR hJ) gX5_move_X5_staying rfl ⟨rfl, by decide, by decide, by decide +kernel⟩ rfl rfl rfl (by rfl) ⟨(by exact Nat.le_of_ble_eq_true rfl), (by exact Nat.le_of_ble_eq_true rfl)⟩ (by exact Nat.le_of_ble_eq_true rfl) ⟨(by exact Nat.le_of_ble_eq_true rfl), (by exact Nat.le_of_ble_eq_true rfl)⟩ dX5_move_1 (by rintro v w ⟨rfl, rfl⟩; rfl) (fun _ _ h => h.elim) (fun _ _ h => h.elim) ?_
  rintro r w ⟨rfl, rfl⟩
  generalize zl_stay U.1.1 U.1.2.1 (-1) = st at hst ⊢
  refine zs_istore_n B dX5_move_4 (i := 2) rfl (by decide) rfl ?_
  refine zs_aload_n B dX5_move_5 (i := 0) rfl rfl ?_
  refine zs_iload_n B dX5_move_6 (i := 1) rfl rfl ?_
  refine zs_iconst (v := 0) B dX5_move_7 (by decide) ?_
  refine zs_aload_n B dX5_move_8 (i := 0) rfl rfl ?_
  refine zs_get B fX5_move_57 rfl rfl dX5_move_9 ?_
  refine zs_eq (wl' := zm_W 0 (a, v)) (st' := [.int (nI U.1.1.length), .int 0, .int i, .ref 0]) rfl rfl (by show [Value.int v.1, _, _, _] = _; rw [hv]) rfl ?_
  refine zs_iload_n B dX5_move_12 (i := 2) rfl rfl ?_
  refine zs_isub B dX5_move_13 ?_
  refine zs_iconst (v := 1) B dX5_move_14 (by decide) ?_
  refine zs_isub B dX5_move_15 ?_
  refine zs_callS (n := 3) [] B (zm_in hl D dA i 0 (nI U.1.1.length - nI st - 1)) gX5_move_X5_in rfl ⟨by decide, by decide, by decide +kernel⟩ rfl (by rfl) rfl (by rfl) ⟨(by exact Nat.le_of_ble_eq_true rfl), (by exact Nat.le_of_ble_eq_true rfl)⟩ (by exact Nat.le_of_ble_eq_true rfl) ⟨(by exact Nat.le_of_ble_eq_true rfl), (by exact Nat.le_of_ble_eq_true rfl)⟩ dX5_move_16 (by rintro v w ⟨rfl, rfl⟩; rfl) (fun _ _ h => h.elim) (fun _ _ h => h.elim) ?_
  rintro r w ⟨rfl, rfl⟩
  refine zs_eq (wl' := zm_W 0 (a, v)) (st' := [.int (zf_b (decide (0 ≤ i ∧ i ≤ nI U.1.1.length - nI st - 1))), .ref 0]) rfl rfl rfl rfl ?_
  refine zs_iconst (v := 1) B dX5_move_19 (by decide) ?_
  refine zs_callV0 (n := 2) B (zm_no hl D dA a v (decide (0 ≤ i ∧ i ≤ nI U.1.1.length - nI st - 1)) 1) gX5_move_X5_no rfl ⟨rfl, by decide, by decide, by decide +kernel⟩ rfl rfl rfl (by rfl) ⟨(by exact Nat.le_of_ble_eq_true rfl), (by exact Nat.le_of_ble_eq_true rfl)⟩ (by exact Nat.le_of_ble_eq_true rfl) ⟨(by exact Nat.le_of_ble_eq_true rfl), (by exact Nat.le_of_ble_eq_true rfl)⟩ dX5_move_20 (by rintro v w ⟨rfl, rfl⟩; rfl) (fun _ _ h => h.elim) (fun _ _ h => h.elim) ?_
  rintro r w ⟨rfl, rfl⟩
  by_cases hin : 0 ≤ i ∧ i ≤ nI U.1.1.length - nI st - 1
  · rw [decide_eq_true hin]
    have h1 := (zm_mvix h12 hst i).mp hin
    have h2 := (zm_mvix2 h12 hst i).mpr h1
    refine zs_if_eq (tgt := 30) B dX5_move_23 (by decide) (fun _ => ?_) (fun h => absurd rfl h)
    obtain ⟨j, hj, rfl⟩ := nI_of h2.1
    rw [zf_ix_nI hj] at h1
    have hjl : j < U.1.1.length - st := by
      rcases Nat.lt_or_ge j (U.1.1.length - st) with q | q
      · exact q
      · rw [if_neg (by omega)] at h1; cases h1
    obtain ⟨q, hq⟩ : ∃ q, U.1.2.1[st + j]? = some q := ⟨_, List.getElem?_eq_getElem (by rw [hJ.len]; omega)⟩
    refine zs_aload_n B dX5_move_30 (i := 0) rfl rfl ?_
    refine zs_get B fX5_move_16 rfl rfl dX5_move_31 ?_
    refine zs_iload_n B dX5_move_34 (i := 2) rfl rfl ?_
    refine zs_iload_n B dX5_move_35 (i := 1) rfl rfl ?_
    refine zs_iadd B dX5_move_36 ?_
    rw [nI_add]
    refine zs_mget 3 (st + j) zm_a3 (by omega) rfl B dX5_move_37 ?_
    rw [show a 3 (st + j) = q.1 from hR.1.2.2.2.1 _ q hq]
    refine zs_zret hA B rfl rfl (by decide) (by decide) ⟨(a, zm_th v 0), Or.inr ⟨h2, ?_, hR.th 0⟩, rfl⟩ dX5_move_38
    rw [zl_key_at hJ.a12 hq]
  · rw [decide_eq_false hin]
    refine zs_if_eq (tgt := 30) B dX5_move_23 (by decide) (fun h => absurd h (by decide)) (fun _ => ?_)
    refine zs_iconst (v := 0) B dX5_move_26 (by decide) ?_
    refine zs_goto (tgt := 38) B dX5_move_27 (by decide) ?_
    exact zs_zret hA B rfl rfl (by decide) (by decide) ⟨(a, zm_th v 1), Or.inl ⟨fun q => hin ((zm_mvix h12 hst i).mpr ((zm_mvix2 h12 hst i).mp q)), rfl, hR.th 1⟩, rfl⟩ dX5_move_38
