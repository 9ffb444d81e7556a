/-! the book's state, and what its private methods do -/
abbrev zb_T : Type := zp_L × List zp_L × zt_D
def zq_ixf (f j : Nat) : Nat := (f + 7 - j) % 8
def zb_H (hist : List zp_L) (q : zq_D) : Prop := q.2.1 < 8 ∧ q.2.2 = hist.length ∧ hist.length ≤ 8 ∧ ∀ (j : Nat) (S : zp_L), hist[j]? = some S → zp_R S (q.1 (zq_ixf q.2.1 j)) ∧ zp_ok (q.1 (zq_ixf q.2.1 j))
def zt_ok (t : zt_D) : Prop := narrow .boolean (.int t.1) = .int t.1 ∧ narrow .char (.int t.2.1) = .int t.2.1 ∧ narrow .boolean (.int t.2.2.2) = .int t.2.2.2
def zb_R (T : zb_T) (x : zb_D) : Prop := zp_R T.1 x.1 ∧ zp_ok x.1 ∧ zb_H T.2.1 x.2.1 ∧ T.2.2 = x.2.2.1 ∧ zt_ok T.2.2
theorem zp_ok_of {S : zp_L} {g g' : zp_D} (h : zp_R S g) (h' : zp_R S g') (ho : zp_ok g) : zp_ok g' := by
  have e : g'.2.2.2 = g.2.2.2 := congrArg Prod.snd (h'.2.2.symm.trans h.2.2)
  unfold zp_ok
  rw [e]
  exact ho
theorem zp_ok_same {S S' : zp_L} {g g' : zp_D} (h : zp_R S g) (h' : zp_R S' g') (e : S'.2.2.2 = S.2.2.2) (ho : zp_ok g) : zp_ok g' := by
  have e : g'.2.2.2 = g.2.2.2 := (congrArg Prod.snd h'.2.2).symm.trans (e.trans (congrArg Prod.snd h.2.2))
  unfold zp_ok
  rw [e]
  exact ho
theorem zq_fin : ∀ f, f < 8 → zq_nx f < 8 ∧ zq_pv f < 8 ∧ zq_ixf (zq_nx f) 0 = f ∧ zq_pv f = zq_ixf f 0 ∧ ∀ j, j < 7 → zq_ixf (zq_nx f) (j + 1) = zq_ixf f j ∧ zq_ixf f j ≠ f ∧ zq_ixf (zq_pv f) j = zq_ixf f (j + 1) := by decide +kernel
theorem zb_H.keep {hist : List zp_L} {r : Nat → zp_D} {f k : Nat} (h : zb_H hist (r, f, k)) {S : zp_L} {g : zp_D} (hR : zp_R S g) (ho : zp_ok g) : zb_H ((S :: hist).take 8) (va_up r f g, zq_nx f, min (k + 1) 8) := by
  obtain ⟨h1, h2, h3, h4⟩ := h
  obtain ⟨a1, a2, a3, a4, a5⟩ := zq_fin f h1
  have h2' : k = hist.length := h2
  refine ⟨a1, ?_, ?_, fun j S' hj => ?_⟩
  · show min (k + 1) 8 = _
    rw [List.length_take, List.length_cons, h2', Nat.min_comm]
  · rw [List.length_take]; omega
  · show zp_R S' (va_up r f g (zq_ixf (zq_nx f) j)) ∧ zp_ok (va_up r f g (zq_ixf (zq_nx f) j))
    rw [List.getElem?_take] at hj
    split at hj
    · rename_i hj8
      cases j with
      | zero =>
        cases hj
        rw [a3]
        unfold va_up
        rw [if_pos rfl]
        exact ⟨hR, ho⟩
      | succ j =>
        obtain ⟨b1, b2, -⟩ := a5 j (by omega)
        rw [b1]
        unfold va_up
        rw [if_neg b2]
        exact h4 j S' hj
    · cases hj
theorem zb_H.back {hist : List zp_L} {S : zp_L} {r : Nat → zp_D} {f k : Nat} (h : zb_H (S :: hist) (r, f, k)) : zp_R S (r (zq_pv f)) ∧ zp_ok (r (zq_pv f)) ∧ zb_H hist (r, zq_pv f, k - 1) := by
  obtain ⟨h1, h2, h3, h4⟩ := h
  obtain ⟨a1, a2, a3, a4, a5⟩ := zq_fin f h1
  have h2' : k = hist.length + 1 := h2
  have h3' : hist.length + 1 ≤ 8 := h3
  have h0 := h4 0 S rfl
  rw [show zq_ixf (r, f, k).2.1 0 = zq_pv f from a4.symm] at h0
  refine ⟨h0.1, h0.2, a2, by show k - 1 = _; omega, by omega, fun j S' hj => ?_⟩
  have hjl := (List.getElem?_eq_some_iff.mp hj).1
  obtain ⟨-, -, b3⟩ := a5 j (by omega)
  show zp_R S' (r (zq_ixf (zq_pv f) j)) ∧ zp_ok (r (zq_ixf (zq_pv f) j))
  rw [b3]
  exact h4 (j + 1) S' hj
def zb_chg (T : zb_T) : zb_T := (T.1, (T.1 :: T.2.1).take 8, (0, T.2.2.2))
def zb_set (T : zb_T) (S : zp_L) : zb_T := (S, T.2)
theorem zb_len (x : zb_D) : (zb_W x).length = 70 := rfl
set_option maxHeartbeats 4000000 in
theorem zb_beginChange {l : Launch} (hl : l.stackTraces = false) (D : va_G) (dA : Nat → ClassId) (x : zb_D) (T : zb_T) (hR : zb_R T x) : zw_Sp l D dA yX4_beginChange wsX4_beginChange 5 0 0 [.ref 0] (zb_W x) (fun v w => v = none ∧ ∃ x', zb_R (zb_chg T) x' ∧ w = zb_W x') (fun _ _ => False) := by
  refine zw_start hl (by decide) rfl rfl (Nat.le_of_ble_eq_true rfl) ?_
  intro pr e s m args below meth c ad A hA B
  obtain ⟨h1, h2, h3, h4, h5⟩ := hR
  obtain ⟨g, ⟨r, f, k⟩, t, d⟩ := x
  refine zs_aload_n B dX4_beginChange_0 (i := 0) rfl rfl ?_
  refine zs_get B fX4_beginChange_26 rfl rfl dX4_beginChange_1 ?_
  refine zs_callV (n := 0) [66] B (zt_end hl D dA t) gX4_beginChange_X3_end rfl ⟨rfl, by decide, by decide, by decide +kernel⟩ rfl (by rfl) rfl rfl rfl (by rfl) ⟨(by exact Nat.le_of_ble_eq_true rfl), (by exact Nat.le_of_ble_eq_true rfl)⟩ (by exact Nat.le_of_ble_eq_true rfl) ⟨(by exact Nat.le_of_ble_eq_true rfl), (by exact Nat.le_of_ble_eq_true rfl)⟩ dX4_beginChange_4 (by rintro v w ⟨rfl, rfl⟩; rfl) (fun _ _ h => h.elim) (fun _ _ h => h.elim) ?_
  rintro v w ⟨rfl, rfl⟩
  refine zs_eq (wl' := zb_W (g, (r, f, k), (0, t.2), d)) (st' := []) (zb_upT (g, (r, f, k), t, d) (0, t.2)) rfl rfl rfl ?_
  refine zs_aload_n B dX4_beginChange_7 (i := 0) rfl rfl ?_
  refine zs_get B fX4_beginChange_19 rfl rfl dX4_beginChange_8 ?_
  refine zs_aload_n B dX4_beginChange_11 (i := 0) rfl rfl ?_
  refine zs_get B fX4_beginChange_10 rfl rfl dX4_beginChange_12 ?_
  refine zs_callV (n := 1) zb_isK B (zq_keep hl D dA r f k h3.1 (by have a1 : k = T.2.1.length := h3.2.1; have a2 : T.2.1.length ≤ 8 := h3.2.2.1; omega) g T.1 h1 h2) gX4_beginChange_X1_keep rfl ⟨rfl, by decide, by decide, by decide +kernel⟩ rfl (zb_selK (g, (r, f, k), (0, t.2), d)) rfl rfl rfl (by rfl) ⟨(by exact Nat.le_of_ble_eq_true rfl), (by exact Nat.le_of_ble_eq_true rfl)⟩ (by exact Nat.le_of_ble_eq_true rfl) ⟨(by exact Nat.le_of_ble_eq_true rfl), (by exact Nat.le_of_ble_eq_true rfl)⟩ dX4_beginChange_15 (by rintro v w ⟨rfl, d9, h9, rfl⟩; rfl) (fun _ _ h => h.elim) (fun _ _ h => h.elim) ?_
  rintro v w ⟨rfl, g', hg', rfl⟩
  refine zs_eq (wl' := zb_W (g, (va_up r f g', zq_nx f, min (k + 1) 8), (0, t.2), d)) (st' := []) (zb_upK (g, (r, f, k), (0, t.2), d) _ g) rfl rfl rfl ?_
  refine zs_vret hA B rfl (by decide) (by decide) ⟨rfl, (g, (va_up r f g', zq_nx f, min (k + 1) 8), (0, t.2), d), ⟨h1, h2, h3.keep hg' (zp_ok_of h1 hg' h2), ?_, ?_⟩, rfl⟩ dX4_beginChange_18
  · show (0, T.2.2.2) = (0, t.2)
    rw [h4]
  · show zt_ok (0, T.2.2.2)
    exact ⟨(by decide : narrow .boolean (.int 0) = .int 0), h5.2.1, h5.2.2⟩
set_option maxHeartbeats 4000000 in
theorem zb_refuseKey {l : Launch} (hl : l.stackTraces = false) (D : va_G) (dA : Nat → ClassId) (x : zb_D) (key : Int32) : zw_Sp l D dA yX4_refuseKeyOutOfRange wsX4_refuseKeyOutOfRange 6 1 6 [.ref 0, .int key] (zb_W x) (fun v w => v = none ∧ w = zb_W x ∧ (0 ≤ key.toInt ∧ key.toInt ≤ 99)) (fun E w => E = zE_a ∧ w = zb_W x ∧ ¬ (0 ≤ key.toInt ∧ key.toInt ≤ 99)) := by
  refine zw_start hl (by decide) rfl rfl (Nat.le_of_ble_eq_true rfl) ?_
  intro pr e s m args below meth c ad A hA B
  refine zs_iload_n B dX4_refuseKeyOutOfRange_0 (i := 1) rfl rfl ?_
  refine zs_if_lt (tgt := 10) B dX4_refuseKeyOutOfRange_1 (by decide) (fun h => ?_) (fun h => ?_)
  · have h' : key.toInt < 0 := by have := Int32.lt_iff_toInt_lt.mp h; rwa [Int32.toInt_zero] at this
    refine zs_throw hA B (cls := zE_a) (text := "the key is out of range") (fr := 6) rfl (by decide) (by decide +kernel) (by decide +kernel) (by decide +kernel) (by decide +kernel) (by decide +kernel) (by decide +kernel) (by decide +kernel) (by decide +kernel) dX4_refuseKeyOutOfRange_10 dX4_refuseKeyOutOfRange_13 dX4_refuseKeyOutOfRange_14 dX4_refuseKeyOutOfRange_16 dX4_refuseKeyOutOfRange_19 (by exact Nat.le_of_ble_eq_true rfl) (by exact Nat.le_of_ble_eq_true rfl) (by exact Nat.le_of_ble_eq_true rfl) ?_
    exact ⟨rfl, rfl, by omega⟩
  · have h' : ¬ key.toInt < 0 := by have := mt Int32.lt_iff_toInt_lt.mpr h; rwa [Int32.toInt_zero] at this
    refine zs_iload_n B dX4_refuseKeyOutOfRange_4 (i := 1) rfl rfl ?_
    refine zs_bipush (v := 100) B dX4_refuseKeyOutOfRange_5 (by decide) ?_
    refine zs_icmp_lt (tgt := 20) B dX4_refuseKeyOutOfRange_7 (by decide) (fun h2 => ?_) (fun h2 => ?_)
    · have h3 : key.toInt < 100 := Int32.lt_iff_toInt_lt.mp h2
      exact zs_vret hA B rfl (by decide) (by decide) ⟨rfl, rfl, by omega⟩ dX4_refuseKeyOutOfRange_20
    · have h3 : ¬ key.toInt < 100 := fun q => h2 (Int32.lt_iff_toInt_lt.mpr q)
      refine zs_throw hA B (cls := zE_a) (text := "the key is out of range") (fr := 6) rfl (by decide) (by decide +kernel) (by decide +kernel) (by decide +kernel) (by decide +kernel) (by decide +kernel) (by decide +kernel) (by decide +kernel) (by decide +kernel) dX4_refuseKeyOutOfRange_10 dX4_refuseKeyOutOfRange_13 dX4_refuseKeyOutOfRange_14 dX4_refuseKeyOutOfRange_16 dX4_refuseKeyOutOfRange_19 (by exact Nat.le_of_ble_eq_true rfl) (by exact Nat.le_of_ble_eq_true rfl) (by exact Nat.le_of_ble_eq_true rfl) ?_
      exact ⟨rfl, rfl, by omega⟩
set_option maxHeartbeats 4000000 in
theorem zb_refuseAbsent {l : Launch} (hl : l.stackTraces = false) (D : va_G) (dA : Nat → ClassId) (x : zb_D) (T : zb_T) (hR : zb_R T x) (key : Int32) : zw_Sp l D dA yX4_refuseAbsentKey wsX4_refuseAbsentKey 6 1 6 [.ref 0, .int key] (zb_W x) (fun v w => v = none ∧ w = zb_W x ∧ zl_find T.1.1 key < T.1.1.length) (fun E w => E = zE_n ∧ w = zb_W x ∧ ¬ zl_find T.1.1 key < T.1.1.length) := by
  refine zw_start hl (by decide) rfl rfl (Nat.le_of_ble_eq_true rfl) ?_
  intro pr e s m args below meth c ad A hA B
  refine zs_aload_n B dX4_refuseAbsentKey_0 (i := 0) rfl rfl ?_
  refine zs_get B fX4_refuseAbsentKey_10 rfl rfl dX4_refuseAbsentKey_1 ?_
  refine zs_iload_n B dX4_refuseAbsentKey_4 (i := 1) rfl rfl ?_
  refine zs_callV (n := 1) [1, 2, 3, 4, 5, 6, 7] B (zp_holds hl D dA x.1 T.1 hR.1 key) gX4_refuseAbsentKey_X0_holds rfl ⟨rfl, by decide, by decide, by decide +kernel⟩ rfl (by rfl) rfl rfl rfl (by rfl) ⟨(by exact Nat.le_of_ble_eq_true rfl), (by exact Nat.le_of_ble_eq_true rfl)⟩ (by exact Nat.le_of_ble_eq_true rfl) ⟨(by exact Nat.le_of_ble_eq_true rfl), (by exact Nat.le_of_ble_eq_true rfl)⟩ dX4_refuseAbsentKey_5 (by rintro v w ⟨rfl, rfl⟩; rfl) (fun _ _ h => h.elim) (fun _ _ h => h.elim) ?_
  rintro v w ⟨rfl, rfl⟩
  refine zs_eq (wl' := zb_W x) (st' := [.int (zf_b (decide (zl_find T.1.1 key < T.1.1.length)))]) (zb_upP x x.1) rfl rfl rfl ?_
  refine zs_if_ne (tgt := 21) B dX4_refuseAbsentKey_8 (by decide) (fun h => ?_) (fun h => ?_)
  · exact zs_vret hA B rfl (by decide) (by decide) ⟨rfl, rfl, of_decide_eq_true (zf_b_ne h)⟩ dX4_refuseAbsentKey_21
  · refine zs_throwN hA B (cls := zE_n) (text := "the key is not there") (fr := 6) rfl (by decide) (by decide +kernel) (by decide +kernel) (by decide +kernel) (by decide +kernel) (by decide +kernel) (by decide +kernel) (by decide +kernel) (by decide +kernel) dX4_refuseAbsentKey_11 dX4_refuseAbsentKey_14 dX4_refuseAbsentKey_15 dX4_refuseAbsentKey_17 dX4_refuseAbsentKey_20 (by exact Nat.le_of_ble_eq_true rfl) (by exact Nat.le_of_ble_eq_true rfl) (by exact Nat.le_of_ble_eq_true rfl) ?_
    exact ⟨rfl, rfl, of_decide_eq_false (zf_b_eq h)⟩
set_option maxHeartbeats 4000000 in
theorem zb_refuseOrder {l : Launch} (hl : l.stackTraces = false) (D : va_G) (dA : Nat → ClassId) (x : zb_D) (o : Int32) : zw_Sp l D dA yX4_refuseUnknownOrder wsX4_refuseUnknownOrder 6 1 6 [.ref 0, .int o] (zb_W x) (fun v w => v = none ∧ w = zb_W x ∧ (o = 99 ∨ o = 97)) (fun E w => E = zE_a ∧ w = zb_W x ∧ ¬ (o = 99 ∨ o = 97)) := by
  refine zw_start hl (by decide) rfl rfl (Nat.le_of_ble_eq_true rfl) ?_
  intro pr e s m args below meth c ad A hA B
  refine zs_iload_n B dX4_refuseUnknownOrder_0 (i := 1) rfl rfl ?_
  refine zs_bipush (v := 99) B dX4_refuseUnknownOrder_1 (by decide) ?_
  refine zs_icmp_eq (tgt := 22) B dX4_refuseUnknownOrder_3 (by decide) (fun h => ?_) (fun h => ?_)
  · exact zs_vret hA B rfl (by decide) (by decide) ⟨rfl, rfl, Or.inl h⟩ dX4_refuseUnknownOrder_22
  · refine zs_iload_n B dX4_refuseUnknownOrder_6 (i := 1) rfl rfl ?_
    refine zs_bipush (v := 97) B dX4_refuseUnknownOrder_7 (by decide) ?_
    refine zs_icmp_eq (tgt := 22) B dX4_refuseUnknownOrder_9 (by decide) (fun h2 => ?_) (fun h2 => ?_)
    · exact zs_vret hA B rfl (by decide) (by decide) ⟨rfl, rfl, Or.inr h2⟩ dX4_refuseUnknownOrder_22
    · refine zs_throw hA B (cls := zE_a) (text := "there is no such order") (fr := 6) rfl (by decide) (by decide +kernel) (by decide +kernel) (by decide +kernel) (by decide +kernel) (by decide +kernel) (by decide +kernel) (by decide +kernel) (by decide +kernel) dX4_refuseUnknownOrder_12 dX4_refuseUnknownOrder_15 dX4_refuseUnknownOrder_16 dX4_refuseUnknownOrder_18 dX4_refuseUnknownOrder_21 (by exact Nat.le_of_ble_eq_true rfl) (by exact Nat.le_of_ble_eq_true rfl) (by exact Nat.le_of_ble_eq_true rfl) ?_
      exact ⟨rfl, rfl, fun q => q.elim h h2⟩
theorem zb_upC (x : zb_D) (d : zr_D) : zw_back (zb_W x) [2, 3, 4] ((zr_W 0 d).map (zw_rE [2, 3, 4])) = zb_W ((d, x.1.2), x.2) := rfl
theorem zb_upA (x : zb_D) (d : zr_D) : zw_back (zb_W x) [5, 6, 7] ((zr_W 0 d).map (zw_rE [5, 6, 7])) = zb_W ((x.1.1, d, x.1.2.2), x.2) := rfl
set_option maxHeartbeats 4000000 in
theorem zb_refusePlace {l : Launch} (hl : l.stackTraces = false) (D : va_G) (dA : Nat → ClassId) (x : zb_D) (T : zb_T) (hR : zb_R T x) (q : Int32) : zw_Sp l D dA yX4_refuseUnknownPlace wsX4_refuseUnknownPlace 6 1 6 [.ref 0, .int q] (zb_W x) (fun v w => v = none ∧ w = zb_W x ∧ (zf_ix q T.1.1.length).isSome = true) (fun E w => E = zE_i ∧ w = zb_W x ∧ ¬ (zf_ix q T.1.1.length).isSome = true) := by
  refine zw_start hl (by decide) rfl rfl (Nat.le_of_ble_eq_true rfl) ?_
  intro pr e s m args below meth c ad A hA B
  have h12 : x.1.1.1 ≤ 12 := by rw [hR.1.1.1]; exact hR.1.1.len
  refine zs_aload_n B dX4_refuseUnknownPlace_0 (i := 0) rfl rfl ?_
  refine zs_get B fX4_refuseUnknownPlace_10 rfl rfl dX4_refuseUnknownPlace_1 ?_
  refine zs_getN B fX4_refuseUnknownPlace_69 rfl rfl dX4_refuseUnknownPlace_4 ?_
  refine zs_iload_n B dX4_refuseUnknownPlace_7 (i := 1) rfl rfl ?_
  refine zs_callV (n := 1) [2, 3, 4] B (zr_holdsPlace hl D dA x.1.1 h12 q) gX4_refuseUnknownPlace_X2_holdsPlace rfl ⟨rfl, by decide, by decide, by decide +kernel⟩ rfl (by rfl) rfl rfl rfl (by rfl) ⟨(by exact Nat.le_of_ble_eq_true rfl), (by exact Nat.le_of_ble_eq_true rfl)⟩ (by exact Nat.le_of_ble_eq_true rfl) ⟨(by exact Nat.le_of_ble_eq_true rfl), (by exact Nat.le_of_ble_eq_true rfl)⟩ dX4_refuseUnknownPlace_8 (by rintro v w ⟨rfl, rfl⟩; rfl) (fun _ _ h => h.elim) (fun _ _ h => h.elim) ?_
  rintro v w ⟨rfl, rfl⟩
  refine zs_eq (wl' := zb_W x) (st' := [.int (zf_b (zf_ix q T.1.1.length).isSome)]) (zb_upC x x.1.1) rfl (by rw [← hR.1.1.1]; rfl) rfl ?_
  refine zs_if_ne (tgt := 24) B dX4_refuseUnknownPlace_11 (by decide) (fun h => ?_) (fun h => ?_)
  · exact zs_vret hA B rfl (by decide) (by decide) ⟨rfl, rfl, zf_b_ne h⟩ dX4_refuseUnknownPlace_24
  · refine zs_throw hA B (cls := zE_i) (text := "there is no such place") (fr := 6) rfl (by decide) (by decide +kernel) (by decide +kernel) (by decide +kernel) (by decide +kernel) (by decide +kernel) (by decide +kernel) (by decide +kernel) (by decide +kernel) dX4_refuseUnknownPlace_14 dX4_refuseUnknownPlace_17 dX4_refuseUnknownPlace_18 dX4_refuseUnknownPlace_20 dX4_refuseUnknownPlace_23 (by exact Nat.le_of_ble_eq_true rfl) (by exact Nat.le_of_ble_eq_true rfl) (by exact Nat.le_of_ble_eq_true rfl) ?_
    exact ⟨rfl, rfl, by rw [zf_b_eq h]; decide⟩
