/-! the book: undo, the sum -/
def zl_sum1 : zr_L → Int64 → Int64
  | [], s => s
  | q :: L, s => zl_sum1 L ((s * 31 + q.1.toInt64) * 31 + q.2.toInt64)
def zl_sum2 : zr_L → Int64 → Int64
  | [], s => s
  | q :: L, s => zl_sum2 L (s * 31 + q.1.toInt64)
def zb_sum (S : zp_L) (k : Nat) : Int64 := ((zl_sum2 S.2.1 (zl_sum1 S.1 7) * 31 + S.2.2.1.toInt64) * 31 + S.2.2.2.toInt64) * 31 + (nI k).toInt64
set_option maxHeartbeats 4000000 in
theorem zb_undo {l : Launch} (hl : l.stackTraces = false) (D : va_G) (dA : Nat → ClassId) (x : zb_D) (T : zb_T) (hR : zb_R T x) : zw_Sp l D dA yX4_undo wsX4_undo 7 1 6 [.ref 0] (zb_W x)
    (fun r w => ∃ S' hist', T.2.1 = S' :: hist' ∧ r = some (.int (nI hist'.length)) ∧ ∃ x', zb_R (S', hist', (0, T.2.2.2)) x' ∧ w = zb_W x') (fun E w => E = zE_n ∧ w = zb_W x ∧ T.2.1 = []) := by
  refine zw_start hl (by decide) rfl rfl (Nat.le_of_ble_eq_true rfl) ?_
  intro pr e s m args below meth c ad A hA B
  obtain ⟨S, hist, t⟩ := T
  obtain ⟨g, ⟨rg, f, k⟩, t', d⟩ := x
  obtain ⟨h1, h2, h3, h4, h5⟩ := hR
  have h4 : t = t' := h4
  subst h4
  have hk : k = hist.length := h3.2.1
  have hk8 : hist.length ≤ 8 := h3.2.2.1
  refine zs_aload_n B dX4_undo_0 (i := 0) rfl rfl ?_
  refine zs_get B fX4_undo_19 rfl rfl dX4_undo_1 ?_
  refine zs_callV (n := 0) zb_is B (zq_kept hl D dA (rg, f, k)) gX4_undo_X1_kept rfl ⟨rfl, by decide, by decide, by decide +kernel⟩ rfl (zb_selQ (g, (rg, f, k), t, d)) rfl rfl rfl (by rfl) ⟨(by exact Nat.le_of_ble_eq_true rfl), (by exact Nat.le_of_ble_eq_true rfl)⟩ (by exact Nat.le_of_ble_eq_true rfl) ⟨(by exact Nat.le_of_ble_eq_true rfl), (by exact Nat.le_of_ble_eq_true rfl)⟩ dX4_undo_4 (by rintro v w ⟨rfl, rfl⟩; rfl) (fun _ _ h => h.elim) (fun _ _ h => h.elim) ?_
  rintro v w ⟨rfl, rfl⟩
  refine zs_eq (wl' := zb_W (g, (rg, f, k), t, d)) (st' := [.int (nI k)]) (zb_upQ (g, (rg, f, k), t, d)) rfl rfl rfl ?_
  refine zs_if_ne (tgt := 20) B dX4_undo_7 (by decide) (fun h => ?_) (fun h => ?_)
  · cases hist with
    | nil => exact absurd (by rw [hk]; exact nI_0) h
    | cons S' hist' =>
      have hkk : 0 < k := by rw [hk]; exact Nat.succ_pos _
      obtain ⟨b1, b2, b3⟩ := h3.back
      refine zs_aload_n B dX4_undo_20 (i := 0) rfl rfl ?_
      refine zs_get B fX4_undo_26 rfl rfl dX4_undo_21 ?_
      refine zs_callV (n := 0) [66] B (zt_end hl D dA t) gX4_undo_X3_end rfl ⟨rfl, by decide, by decide, by decide +kernel⟩ rfl (by rfl) rfl rfl rfl (by rfl) ⟨(by exact Nat.le_of_ble_eq_true rfl), (by exact Nat.le_of_ble_eq_true rfl)⟩ (by exact Nat.le_of_ble_eq_true rfl) ⟨(by exact Nat.le_of_ble_eq_true rfl), (by exact Nat.le_of_ble_eq_true rfl)⟩ dX4_undo_24 (by rintro v w ⟨rfl, rfl⟩; rfl) (fun _ _ h => h.elim) (fun _ _ h => h.elim) ?_
      rintro r w ⟨rfl, rfl⟩
      refine zs_eq (wl' := zb_W (g, (rg, f, k), (0, t.2), d)) (st' := []) (zb_upT (g, (rg, f, k), t, d) _) rfl rfl rfl ?_
      refine zs_aload_n B dX4_undo_27 (i := 0) rfl rfl ?_
      refine zs_get B fX4_undo_19 rfl rfl dX4_undo_28 ?_
      refine zs_aload_n B dX4_undo_31 (i := 0) rfl rfl ?_
      refine zs_get B fX4_undo_10 rfl rfl dX4_undo_32 ?_
      refine zs_callV (n := 1) zb_isK B (zq_bringBack hl D dA rg f k h3.1 hkk (by omega) g S' b1 b2) gX4_undo_X1_bringBack rfl ⟨rfl, by decide, by decide, by decide +kernel⟩ rfl (zb_selK (g, (rg, f, k), (0, t.2), d)) rfl rfl rfl (by rfl) ⟨(by exact Nat.le_of_ble_eq_true rfl), (by exact Nat.le_of_ble_eq_true rfl)⟩ (by exact Nat.le_of_ble_eq_true rfl) ⟨(by exact Nat.le_of_ble_eq_true rfl), (by exact Nat.le_of_ble_eq_true rfl)⟩ dX4_undo_35 (by rintro v w ⟨rfl, d9, h9, rfl⟩; rfl) (fun _ _ h => h.elim) (fun _ _ h => h.elim) ?_
      rintro v w ⟨rfl, g', hg', rfl⟩
      refine zs_eq (wl' := zb_W (g', (rg, zq_pv f, k - 1), (0, t.2), d)) (st' := []) (zb_upK (g, (rg, f, k), (0, t.2), d) _ g') rfl rfl rfl ?_
      refine zs_aload_n B dX4_undo_38 (i := 0) rfl rfl ?_
      refine zs_get B fX4_undo_19 rfl rfl dX4_undo_39 ?_
      refine zs_callV (n := 0) zb_is B (zq_kept hl D dA (rg, zq_pv f, k - 1)) gX4_undo_X1_kept rfl ⟨rfl, by decide, by decide, by decide +kernel⟩ rfl (zb_selQ (g', (rg, zq_pv f, k - 1), (0, t.2), d)) rfl rfl rfl (by rfl) ⟨(by exact Nat.le_of_ble_eq_true rfl), (by exact Nat.le_of_ble_eq_true rfl)⟩ (by exact Nat.le_of_ble_eq_true rfl) ⟨(by exact Nat.le_of_ble_eq_true rfl), (by exact Nat.le_of_ble_eq_true rfl)⟩ dX4_undo_42 (by rintro v w ⟨rfl, rfl⟩; rfl) (fun _ _ h => h.elim) (fun _ _ h => h.elim) ?_
      rintro v w ⟨rfl, rfl⟩
      refine zs_eq (wl' := zb_W (g', (rg, zq_pv f, k - 1), (0, t.2), d)) (st' := [.int (nI hist'.length)]) (zb_upQ (g', (rg, zq_pv f, k - 1), (0, t.2), d)) rfl (by rw [show hist'.length = k - 1 by rw [hk]; rfl]; rfl) rfl ?_
      refine zs_zret hA B rfl rfl (by decide) (by decide) ⟨S', hist', rfl, rfl, (g', (rg, zq_pv f, k - 1), (0, t.2), d), ⟨hg', zp_ok_of b1 hg' b2, b3, rfl, ?_⟩, rfl⟩ dX4_undo_45
      show zt_ok (0, t.2)
      exact ⟨(by decide : narrow .boolean (.int 0) = .int 0), h5.2.1, h5.2.2⟩
  · have h0 : hist = [] := by
      cases hist with
      | nil => rfl
      | cons S' hist' => exact absurd h (nI_ne0 (n := k) (by rw [hk]; exact Nat.succ_pos _) (by omega))
    refine zs_throwN hA B (cls := zE_n) (text := "no change is kept") (fr := 7) rfl (by decide) (by decide +kernel) (by decide +kernel) (by decide +kernel) (by decide +kernel) (by decide +kernel) (by decide +kernel) (by decide +kernel) (by decide +kernel) dX4_undo_10 dX4_undo_13 dX4_undo_14 dX4_undo_16 dX4_undo_19 (by exact Nat.le_of_ble_eq_true rfl) (by exact Nat.le_of_ble_eq_true rfl) (by exact Nat.le_of_ble_eq_true rfl) ?_
    exact ⟨rfl, rfl, h0⟩
set_option maxHeartbeats 8000000 in
theorem zb_checksum {l : Launch} (hl : l.stackTraces = false) (D : va_G) (dA : Nat → ClassId) (x : zb_D) (T : zb_T) (hR : zb_R T x) : zw_Sp l D dA yX4_checksum wsX4_checksum 7 0 0 [.ref 0] (zb_W x)
    (fun r w => r = some (.long (zb_sum T.1 T.2.1.length)) ∧ w = zb_W x) (fun _ _ => False) := by
  refine zw_start hl (by decide) rfl rfl (Nat.le_of_ble_eq_true rfl) ?_
  intro pr e s m args below meth c ad A hA B
  have hC12 := hR.1.1.len
  have hA12 := hR.1.2.1.len
  refine zs_ldc2 (v := 7) B dX4_checksum_0 (by decide +kernel) ?_
  refine zs_lstore_n B dX4_checksum_3 (i := 1) rfl (by decide) rfl ?_
  refine zs_iconst (v := 0) B dX4_checksum_4 (by decide) ?_
  refine zs_istore_n B dX4_checksum_5 (i := 3) rfl (by decide) rfl ?_
  obtain ⟨sm, hsm⟩ : ∃ sm : Int64, sm = 7 := ⟨_, rfl⟩
  refine zs_eq (wl' := zb_W x) (lv' := [some (.ref 0), some (.long sm), none, some (.int (nI (zz 0)))]) rfl (by rw [hsm]; rfl) rfl rfl ?_
  have hfin : zl_sum1 (T.1.1.drop (zz 0)) sm = zl_sum1 T.1.1 7 := by rw [hsm]; rfl
  obtain ⟨k, hk⟩ : ∃ k, k + zz 0 = T.1.1.length := ⟨T.1.1.length, rfl⟩
  clear hsm
  generalize zz 0 = j at hk hfin ⊢
  induction k generalizing j sm with
  | zero =>
    refine zs_iload_n B dX4_checksum_6 (i := 3) rfl rfl ?_
    refine zs_aload_n B dX4_checksum_7 (i := 0) rfl rfl ?_
    refine zs_get B fX4_checksum_10 rfl rfl dX4_checksum_8 ?_
    refine zs_getN B fX4_checksum_69 rfl rfl dX4_checksum_11 ?_
    refine zs_callV (n := 0) [2, 3, 4] B (zr_count hl D dA x.1.1) gX4_checksum_X2_count rfl ⟨rfl, by decide, by decide, by decide +kernel⟩ rfl (by rfl) rfl rfl rfl (by rfl) ⟨(by exact Nat.le_of_ble_eq_true rfl), (by exact Nat.le_of_ble_eq_true rfl)⟩ (by exact Nat.le_of_ble_eq_true rfl) ⟨(by exact Nat.le_of_ble_eq_true rfl), (by exact Nat.le_of_ble_eq_true rfl)⟩ dX4_checksum_14 (by rintro v w ⟨rfl, rfl⟩; rfl) (fun _ _ h => h.elim) (fun _ _ h => h.elim) ?_
    rintro r w ⟨rfl, rfl⟩
    refine zs_eq (wl' := zb_W x) (st' := [.int (nI T.1.1.length), .int (nI j)]) (zb_upC x x.1.1) rfl (by rw [← hR.1.1.1]; rfl) rfl ?_
    refine zs_icmp_ge (tgt := 64) B dX4_checksum_17 (by decide) (fun h => ?_) (fun h => absurd (nI_le (show T.1.1.length ≤ j by omega) (by omega)) h)
    rw [List.drop_eq_nil_of_le (by omega)] at hfin
    replace hfin : sm = zl_sum1 T.1.1 7 := hfin
    refine zs_iconst (v := 0) B dX4_checksum_64 (by decide) ?_
    refine zs_istore_n B dX4_checksum_65 (i := 3) rfl (by decide) rfl ?_
    refine zs_eq (wl' := zb_W x) (lv' := [some (.ref 0), some (.long sm), none, some (.int (nI (zz 0)))]) rfl rfl rfl rfl ?_
    have hfin2 : zl_sum2 (T.1.2.1.drop (zz 0)) sm = zl_sum2 T.1.2.1 (zl_sum1 T.1.1 7) := by rw [hfin]; rfl
    obtain ⟨k2, hk2⟩ : ∃ k2, k2 + zz 0 = T.1.2.1.length := ⟨T.1.2.1.length, rfl⟩
    clear hfin
    generalize zz 0 = i at hk2 hfin2 ⊢
    induction k2 generalizing i sm with
    | zero =>
      refine zs_iload_n B dX4_checksum_66 (i := 3) rfl rfl ?_
      refine zs_aload_n B dX4_checksum_67 (i := 0) rfl rfl ?_
      refine zs_get B fX4_checksum_10 rfl rfl dX4_checksum_68 ?_
      refine zs_getN B fX4_checksum_170 rfl rfl dX4_checksum_71 ?_
      refine zs_callV (n := 0) [5, 6, 7] B (zr_count hl D dA x.1.2.1) gX4_checksum_X2_count rfl ⟨rfl, by decide, by decide, by decide +kernel⟩ rfl (by rfl) rfl rfl rfl (by rfl) ⟨(by exact Nat.le_of_ble_eq_true rfl), (by exact Nat.le_of_ble_eq_true rfl)⟩ (by exact Nat.le_of_ble_eq_true rfl) ⟨(by exact Nat.le_of_ble_eq_true rfl), (by exact Nat.le_of_ble_eq_true rfl)⟩ dX4_checksum_74 (by rintro v w ⟨rfl, rfl⟩; rfl) (fun _ _ h => h.elim) (fun _ _ h => h.elim) ?_
      rintro r w ⟨rfl, rfl⟩
      refine zs_eq (wl' := zb_W x) (st' := [.int (nI T.1.2.1.length), .int (nI i)]) (zb_upA x x.1.2.1) rfl (by rw [← hR.1.2.1.1]; rfl) rfl ?_
      refine zs_icmp_ge (tgt := 105) B dX4_checksum_77 (by decide) (fun h => ?_) (fun h => absurd (nI_le (show T.1.2.1.length ≤ i by omega) (by omega)) h)
      rw [List.drop_eq_nil_of_le (by omega)] at hfin2
      have hfin2 : sm = zl_sum2 T.1.2.1 (zl_sum1 T.1.1 7) := hfin2
      refine zs_lload_n B dX4_checksum_105 (i := 1) rfl rfl ?_
      refine zs_ldc2 (v := 31) B dX4_checksum_106 (by decide +kernel) ?_
      refine zs_lmul B dX4_checksum_109 ?_
      refine zs_aload_n B dX4_checksum_110 (i := 0) rfl rfl ?_
      refine zs_get B fX4_checksum_10 rfl rfl dX4_checksum_111 ?_
      refine zs_getN B fX4_checksum_83 rfl rfl dX4_checksum_114 ?_
      refine zs_i2l B dX4_checksum_117 ?_
      refine zs_ladd B dX4_checksum_118 ?_
      refine zs_lstore_n B dX4_checksum_119 (i := 1) rfl (by decide) rfl ?_
      refine zs_lload_n B dX4_checksum_120 (i := 1) rfl rfl ?_
      refine zs_ldc2 (v := 31) B dX4_checksum_121 (by decide +kernel) ?_
      refine zs_lmul B dX4_checksum_124 ?_
      refine zs_aload_n B dX4_checksum_125 (i := 0) rfl rfl ?_
      refine zs_get B fX4_checksum_10 rfl rfl dX4_checksum_126 ?_
      refine zs_getN B fX4_checksum_94 rfl rfl dX4_checksum_129 ?_
      refine zs_i2l B dX4_checksum_132 ?_
      refine zs_ladd B dX4_checksum_133 ?_
      refine zs_lstore_n B dX4_checksum_134 (i := 1) rfl (by decide) rfl ?_
      refine zs_lload_n B dX4_checksum_135 (i := 1) rfl rfl ?_
      refine zs_ldc2 (v := 31) B dX4_checksum_136 (by decide +kernel) ?_
      refine zs_lmul B dX4_checksum_139 ?_
      refine zs_aload_n B dX4_checksum_140 (i := 0) rfl rfl ?_
      refine zs_get B fX4_checksum_19 rfl rfl dX4_checksum_141 ?_
      refine zs_callV (n := 0) zb_is B (zq_kept hl D dA x.2.1) gX4_checksum_X1_kept rfl ⟨rfl, by decide, by decide, by decide +kernel⟩ rfl (zb_selQ x) rfl rfl rfl (by rfl) ⟨(by exact Nat.le_of_ble_eq_true rfl), (by exact Nat.le_of_ble_eq_true rfl)⟩ (by exact Nat.le_of_ble_eq_true rfl) ⟨(by exact Nat.le_of_ble_eq_true rfl), (by exact Nat.le_of_ble_eq_true rfl)⟩ dX4_checksum_144 (by rintro v w ⟨rfl, rfl⟩; rfl) (fun _ _ h => h.elim) (fun _ _ h => h.elim) ?_
      rintro v w ⟨rfl, rfl⟩
      have hm : x.1.2.2.1 = T.1.2.2.1 := (congrArg Prod.fst hR.1.2.2).symm
      have hw : x.1.2.2.2 = T.1.2.2.2 := (congrArg Prod.snd hR.1.2.2).symm
      have hkk : x.2.1.2.2 = T.2.1.length := hR.2.2.1.2.1
      refine zs_eq (wl' := zb_W x) (st' := [.int (nI x.2.1.2.2), .long (((sm * 31 + x.1.2.2.1.toInt64) * 31 + x.1.2.2.2.toInt64) * 31)]) (zb_upQ x) rfl rfl rfl ?_
      refine zs_i2l B dX4_checksum_147 ?_
      refine zs_ladd B dX4_checksum_148 ?_
      refine zs_lret hA B rfl (by decide) (by decide) ⟨?_, rfl⟩ dX4_checksum_149
      rw [hfin2, hm, hw, hkk]
      rfl
    | succ k2 ih2 =>
      obtain ⟨r, hr, -, -⟩ := hR.1.2.1.at (i := i) (by rw [hR.1.2.1.1]; omega)
      refine zs_iload_n B dX4_checksum_66 (i := 3) rfl rfl ?_
      refine zs_aload_n B dX4_checksum_67 (i := 0) rfl rfl ?_
      refine zs_get B fX4_checksum_10 rfl rfl dX4_checksum_68 ?_
      refine zs_getN B fX4_checksum_170 rfl rfl dX4_checksum_71 ?_
      refine zs_callV (n := 0) [5, 6, 7] B (zr_count hl D dA x.1.2.1) gX4_checksum_X2_count rfl ⟨rfl, by decide, by decide, by decide +kernel⟩ rfl (by rfl) rfl rfl rfl (by rfl) ⟨(by exact Nat.le_of_ble_eq_true rfl), (by exact Nat.le_of_ble_eq_true rfl)⟩ (by exact Nat.le_of_ble_eq_true rfl) ⟨(by exact Nat.le_of_ble_eq_true rfl), (by exact Nat.le_of_ble_eq_true rfl)⟩ dX4_checksum_74 (by rintro v w ⟨rfl, rfl⟩; rfl) (fun _ _ h => h.elim) (fun _ _ h => h.elim) ?_
      rintro r w ⟨rfl, rfl⟩
      refine zs_eq (wl' := zb_W x) (st' := [.int (nI T.1.2.1.length), .int (nI i)]) (zb_upA x x.1.2.1) rfl (by rw [← hR.1.2.1.1]; rfl) rfl ?_
      refine zs_icmp_ge (tgt := 105) B dX4_checksum_77 (by decide) (fun h => absurd ((nI_leI (by omega) (by omega)).mp h) (by omega)) (fun h => ?_)
      refine zs_lload_n B dX4_checksum_80 (i := 1) rfl rfl ?_
      refine zs_ldc2 (v := 31) B dX4_checksum_81 (by decide +kernel) ?_
      refine zs_lmul B dX4_checksum_84 ?_
      refine zs_aload_n B dX4_checksum_85 (i := 0) rfl rfl ?_
      refine zs_get B fX4_checksum_10 rfl rfl dX4_checksum_86 ?_
      refine zs_getN B fX4_checksum_170 rfl rfl dX4_checksum_89 ?_
      refine zs_iload_n B dX4_checksum_92 (i := 3) rfl rfl ?_
      refine zs_callV (n := 1) [5, 6, 7] B (zr_keyIn hl D dA x.1.2.1 T.1.2.1 hR.1.2.1 (nI i)) gX4_checksum_X2_keyIn rfl ⟨rfl, by decide, by decide, by decide +kernel⟩ rfl (by rfl) rfl rfl rfl (by rfl) ⟨(by exact Nat.le_of_ble_eq_true rfl), (by exact Nat.le_of_ble_eq_true rfl)⟩ (by exact Nat.le_of_ble_eq_true rfl) ⟨(by exact Nat.le_of_ble_eq_true rfl), (by exact Nat.le_of_ble_eq_true rfl)⟩ dX4_checksum_93 (by rintro v w ⟨rfl, rfl⟩; rfl) (fun _ _ h => h.elim) (fun _ _ h => h.elim) ?_
      rintro r9 w ⟨rfl, rfl⟩
      rw [zl_key_at hA12 hr]
      refine zs_eq (wl' := zb_W x) (st' := [.int r.1, .long (sm * 31)]) (zb_upA x x.1.2.1) rfl rfl rfl ?_
      refine zs_i2l B dX4_checksum_96 ?_
      refine zs_ladd B dX4_checksum_97 ?_
      refine zs_lstore_n B dX4_checksum_98 (i := 1) rfl (by decide) rfl ?_
      refine zs_iinc B dX4_checksum_99 (i := 3) rfl (nI_1 i) (by decide) rfl ?_
      refine zs_goto (tgt := 66) B dX4_checksum_102 (by decide) ?_
      rw [zl_drop_s hr] at hfin2
      exact ih2 _ (i + 1) (by omega) hfin2
  | succ k ih =>
    obtain ⟨r, hr, -, -⟩ := hR.1.1.at (i := j) (by rw [hR.1.1.1]; omega)
    refine zs_iload_n B dX4_checksum_6 (i := 3) rfl rfl ?_
    refine zs_aload_n B dX4_checksum_7 (i := 0) rfl rfl ?_
    refine zs_get B fX4_checksum_10 rfl rfl dX4_checksum_8 ?_
    refine zs_getN B fX4_checksum_69 rfl rfl dX4_checksum_11 ?_
    refine zs_callV (n := 0) [2, 3, 4] B (zr_count hl D dA x.1.1) gX4_checksum_X2_count rfl ⟨rfl, by decide, by decide, by decide +kernel⟩ rfl (by rfl) rfl rfl rfl (by rfl) ⟨(by exact Nat.le_of_ble_eq_true rfl), (by exact Nat.le_of_ble_eq_true rfl)⟩ (by exact Nat.le_of_ble_eq_true rfl) ⟨(by exact Nat.le_of_ble_eq_true rfl), (by exact Nat.le_of_ble_eq_true rfl)⟩ dX4_checksum_14 (by rintro v w ⟨rfl, rfl⟩; rfl) (fun _ _ h => h.elim) (fun _ _ h => h.elim) ?_
    rintro r9 w ⟨rfl, rfl⟩
    refine zs_eq (wl' := zb_W x) (st' := [.int (nI T.1.1.length), .int (nI j)]) (zb_upC x x.1.1) rfl (by rw [← hR.1.1.1]; rfl) rfl ?_
    refine zs_icmp_ge (tgt := 64) B dX4_checksum_17 (by decide) (fun h => absurd ((nI_leI (by omega) (by omega)).mp h) (by omega)) (fun h => ?_)
    refine zs_lload_n B dX4_checksum_20 (i := 1) rfl rfl ?_
    refine zs_ldc2 (v := 31) B dX4_checksum_21 (by decide +kernel) ?_
    refine zs_lmul B dX4_checksum_24 ?_
    refine zs_aload_n B dX4_checksum_25 (i := 0) rfl rfl ?_
    refine zs_get B fX4_checksum_10 rfl rfl dX4_checksum_26 ?_
    refine zs_getN B fX4_checksum_69 rfl rfl dX4_checksum_29 ?_
    refine zs_iload_n B dX4_checksum_32 (i := 3) rfl rfl ?_
    refine zs_callV (n := 1) [2, 3, 4] B (zr_keyIn hl D dA x.1.1 T.1.1 hR.1.1 (nI j)) gX4_checksum_X2_keyIn rfl ⟨rfl, by decide, by decide, by decide +kernel⟩ rfl (by rfl) rfl rfl rfl (by rfl) ⟨(by exact Nat.le_of_ble_eq_true rfl), (by exact Nat.le_of_ble_eq_true rfl)⟩ (by exact Nat.le_of_ble_eq_true rfl) ⟨(by exact Nat.le_of_ble_eq_true rfl), (by exact Nat.le_of_ble_eq_true rfl)⟩ dX4_checksum_33 (by rintro v w ⟨rfl, rfl⟩; rfl) (fun _ _ h => h.elim) (fun _ _ h => h.elim) ?_
    rintro r9 w ⟨rfl, rfl⟩
    rw [zl_key_at hC12 hr]
    refine zs_eq (wl' := zb_W x) (st' := [.int r.1, .long (sm * 31)]) (zb_upC x x.1.1) rfl rfl rfl ?_
    refine zs_i2l B dX4_checksum_36 ?_
    refine zs_ladd B dX4_checksum_37 ?_
    refine zs_lstore_n B dX4_checksum_38 (i := 1) rfl (by decide) rfl ?_
    refine zs_lload_n B dX4_checksum_39 (i := 1) rfl rfl ?_
    refine zs_ldc2 (v := 31) B dX4_checksum_40 (by decide +kernel) ?_
    refine zs_lmul B dX4_checksum_43 ?_
    refine zs_aload_n B dX4_checksum_44 (i := 0) rfl rfl ?_
    refine zs_get B fX4_checksum_10 rfl rfl dX4_checksum_45 ?_
    refine zs_getN B fX4_checksum_69 rfl rfl dX4_checksum_48 ?_
    refine zs_iload_n B dX4_checksum_51 (i := 3) rfl rfl ?_
    refine zs_callV (n := 1) [2, 3, 4] B (zr_valueIn hl D dA x.1.1 T.1.1 hR.1.1 (nI j)) gX4_checksum_X2_valueIn rfl ⟨rfl, by decide, by decide, by decide +kernel⟩ rfl (by rfl) rfl rfl rfl (by rfl) ⟨(by exact Nat.le_of_ble_eq_true rfl), (by exact Nat.le_of_ble_eq_true rfl)⟩ (by exact Nat.le_of_ble_eq_true rfl) ⟨(by exact Nat.le_of_ble_eq_true rfl), (by exact Nat.le_of_ble_eq_true rfl)⟩ dX4_checksum_52 (by rintro v w ⟨rfl, rfl⟩; rfl) (fun _ _ h => h.elim) (fun _ _ h => h.elim) ?_
    rintro r9 w ⟨rfl, rfl⟩
    rw [zl_val_at hC12 hr]
    refine zs_eq (wl' := zb_W x) (st' := [.int r.2, .long ((sm * 31 + r.1.toInt64) * 31)]) (zb_upC x x.1.1) rfl rfl rfl ?_
    refine zs_i2l B dX4_checksum_55 ?_
    refine zs_ladd B dX4_checksum_56 ?_
    refine zs_lstore_n B dX4_checksum_57 (i := 1) rfl (by decide) rfl ?_
    refine zs_iinc B dX4_checksum_58 (i := 3) rfl (nI_1 j) (by decide) rfl ?_
    refine zs_goto (tgt := 6) B dX4_checksum_61 (by decide) ?_
    rw [zl_drop_s hr] at hfin
    exact ih _ (j + 1) (by omega) hfin
