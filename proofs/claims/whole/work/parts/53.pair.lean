/-! class and model, method by method -/
theorem zL_nat {N : Nat} (hN : N + 1 < 2 ^ 31) {q : Int32} (h : 1 ≤ q.toInt ∧ q.toInt ≤ N) : ∃ n : Nat, 1 ≤ n ∧ n ≤ N ∧ q = nI n := by
  obtain ⟨j, h1, h2⟩ := vp_in_of (vp_in_iff.mpr ⟨by omega, by omega⟩ : vp_in q (N + 1)) (by omega)
  subst h2
  rw [nI_toInt (by omega)] at h
  exact ⟨j, by omega, by omega, rfl⟩
theorem zL_inj {a b : Nat} (ha : a < 2 ^ 31) (hb : b < 2 ^ 31) (h : nI a = nI b) : a = b := by
  have := congrArg Int32.toNatClampNeg h
  rwa [nI_clamp ha, nI_clamp hb] at this
theorem zL_rng {n N : Nat} (h1 : 1 ≤ n) (h2 : n ≤ N) (hN : N < 2 ^ 31) : 1 ≤ (nI n).toInt ∧ (nI n).toInt ≤ N := by
  rw [nI_toInt (by omega)]
  omega
theorem zL_key0 {S : zp_L} (h : zp_I S) {o : Int32} {j : Nat} {q : Int32 × Int32} (hq : (zp_row S o)[j]? = some q) : 0 ≤ q.1.toInt := (h.1.2.2.2.2.2.2.2 q ((zp_row_sub h.1 o q).mp (List.mem_of_getElem? hq))).1
theorem zL_C.last {S : zp_L} {hist : List zp_L} {t1 : zt_D} {W : zm_Wk} (hC : zL_C (S, hist, t1) (S, hist, W)) : W.1 = 1 → ¬ W.2.2 < 0 → W.2.2 ∈ S.1.map (·.1) := fun h3 hla => by
  obtain ⟨w1, n, w2, w3, w4, w5, w6⟩ := hC.2.2.2.2.2 h3
  obtain ⟨hn1, q, hq, hq1⟩ := w6 (fun q => hla (w5.mp q))
  have hI1 : zp_I S := hC.2.2.1.1
  exact List.mem_map.mpr ⟨q, (zp_row_sub hI1.1 t1.2.1 q).mp (List.mem_of_getElem? hq), hq1⟩
theorem zL_C.walk {S : zp_L} {hist : List zp_L} {t1 : zt_D} {W : zm_Wk} {o : Int32} (hC : zL_C (S, hist, t1) (S, hist, W)) (ho : o = 99 ∨ o = 97) : zL_C (S, hist, (1, o, 0, 0)) (S, hist, (1, (zp_row S o).map (·.1), -1)) :=
  ⟨rfl, rfl, hC.2.2.1, Or.inr rfl, rfl, fun _ => ⟨ho, 0, rfl, Nat.zero_le _, rfl, ⟨fun _ => (by decide : (-1 : Int32) < 0), fun _ => rfl⟩, fun h => absurd rfl h⟩⟩
theorem zL_C.step {S : zp_L} {hist : List zp_L} {t1 : zt_D} {W : zm_Wk} (hC : zL_C (S, hist, t1) (S, hist, W)) {n : Nat} {q : Int32 × Int32} (h3 : W.1 = 1) (w1 : t1.2.1 = 99 ∨ t1.2.1 = 97) (w2 : t1.2.2.1 = nI n) (hn : n < (zp_row S t1.2.1).length) (hq : (zp_row S t1.2.1)[n]? = some q) :
    zL_C (S, hist, (t1.1, t1.2.1, t1.2.2.1 + 1, 1)) (S, hist, (1, ((zp_row S t1.2.1).drop (n + 1)).map (·.1), q.1)) := by
  refine ⟨rfl, rfl, hC.2.2.1, Or.inr rfl, hC.2.2.2.2.1.trans h3, fun _ => ⟨w1, n + 1, by show t1.2.2.1 + 1 = _; rw [w2]; exact nI_1 n, hn, rfl, ⟨fun h => absurd h (by decide : ¬ (1 : Int32) = 0), fun h => ?_⟩, fun _ => ⟨Nat.le_add_left 1 n, q, hq, rfl⟩⟩⟩
  have h0 := zL_key0 hC.2.2.1.1 hq
  have h9 : q.1.toInt < (0 : Int32).toInt := Int32.lt_iff_toInt_lt.mp h
  have h8 : (0 : Int32).toInt = 0 := by decide
  omega
theorem zL_erase {L : zr_L} {j : Nat} {q : Int32 × Int32} (hN : (L.map (·.1)).Nodup) (hq : L[j]? = some q) : L.filter (fun r => !(r.1 == q.1)) = L.eraseIdx j := by
  rw [← zl_erase_filter q.1 L hN, zl_find_nodup hN hq]
theorem zL_row_take {S : zp_L} (h : zp_J S) (key o : Int32) : zp_row (zp_take S key) o = (zp_row S o).filter (fun r => !(r.1 == key)) := by
  rw [zp_take_eq h]
  unfold zp_row
  split <;> rfl
theorem zL_row_nod {S : zp_L} (h : zp_J S) (o : Int32) : ((zp_row S o).map (·.1)).Nodup := by
  unfold zp_row
  split
  · exact h.nodA
  · exact h.2.2.2.2.2.2.1
theorem zL_C.cut {S : zp_L} {hist : List zp_L} {t1 : zt_D} {W : zm_Wk} (hC : zL_C (S, hist, t1) (S, hist, W)) {n : Nat} {q : Int32 × Int32} (h3 : W.1 = 1) (w1 : t1.2.1 = 99 ∨ t1.2.1 = 97) (w2 : t1.2.2.1 = nI n) (w3 : n ≤ (zp_row S t1.2.1).length) (w4 : W.2.1 = ((zp_row S t1.2.1).drop n).map (·.1)) (hn1 : 1 ≤ n) (hq : (zp_row S t1.2.1)[n - 1]? = some q) (hq1 : q.1 = W.2.2) (e2 : t1.2.2.1 - 1 = nI (n - 1)) :
    zL_C (zp_take S W.2.2, (S :: hist).take 8, (t1.1, t1.2.1, t1.2.2.1 - 1, 0)) (zp_take S W.2.2, (S :: hist).take 8, (1, W.2.1, -1)) := by
  have hI1 : zp_I S := hC.2.2.1.1
  have hrow : zp_row (zp_take S W.2.2) t1.2.1 = (zp_row S t1.2.1).eraseIdx (n - 1) := by
    rw [zL_row_take hI1.1, ← hq1]
    exact zL_erase (zL_row_nod hI1.1 _) hq
  refine ⟨rfl, rfl, ⟨hI1.take _, hC.hist⟩, Or.inr rfl, hC.2.2.2.2.1.trans h3, fun _ => ⟨w1, n - 1, e2, ?_, ?_, ⟨fun _ => (by decide : (-1 : Int32) < 0), fun _ => rfl⟩, fun h => absurd rfl h⟩⟩
  · show n - 1 ≤ (zp_row (zp_take S W.2.2) t1.2.1).length
    rw [hrow, List.length_eraseIdx, if_pos (by omega)]
    omega
  · show W.2.1 = ((zp_row (zp_take S W.2.2) t1.2.1).drop (n - 1)).map (·.1)
    rw [hrow, w4]
    have hd : List.drop (n - 1) (List.take (n - 1) (zp_row S t1.2.1)) = [] := List.drop_eq_nil_of_le (by rw [List.length_take]; exact Nat.min_le_left _ _)
    rw [List.eraseIdx_eq_take_drop_succ, List.drop_append_of_le_length (by rw [List.length_take]; omega), hd, show n - 1 + 1 = n by omega]
    rfl
theorem zL_C.undo {S S0 : zp_L} {hist : List zp_L} {t1 : zt_D} {W : zm_Wk} (hC : zL_C (S, S0 :: hist, t1) (S, S0 :: hist, W)) : zL_C (S0, hist, (0, t1.2)) (S0, hist, (0, W.2)) :=
  zL_C.off (hC.2.2.1.2 S0 List.mem_cons_self) (fun S' h => hC.2.2.1.2 S' (List.mem_cons_of_mem _ h)) rfl rfl
set_option maxHeartbeats 2000000 in
theorem zX_put {l : Launch} (hl : l.stackTraces = false) (D : va_G) (dA : Nat → ClassId) {x : zb_D} {T : zb_T} {d : zm_D} {U : zm_U} {t : Int32} (hR : zb_R T x) (hM : zm_R U t d) (hC : zL_C T U) (p1 p2 : Int32) : ∃ (k a : Int32) (E : String) (T' : zb_T) (U' : zm_U), (k = 0 ∨ (k = 1 ∧ E = zE_a)) ∧ (¬ k = 0 → T' = T) ∧ zL_C T' U' ∧ zw_Sp l D dA yX4_put wsX4_put 7 1 6 [.ref 0, .int p1, .int p2] (zb_W x) (zD_post k a T') (zD_px k E x) ∧ zw_Sp l D dA yX5_put wsX5_put 5 0 0 [.ref 0, .int p1, .int p2] (zm_W 0 d) (zG_post k a U') (fun _ _ => False) := by
  obtain ⟨S, hist, t1⟩ := T
  obtain ⟨S2, hist2, W⟩ := U
  have h1 : S = S2 := hC.1
  subst h1
  have h2 : hist = hist2 := hC.2.1
  subst h2
  have hI : zm_I (S, hist, W) := hC.2.2.1
  have hI1 : zp_I S := hI.1
  have hb := zb_put hl D dA x (S, hist, t1) hR hI1 p1 p2
  have hm := zm_put hl D dA d (S, hist, W) t hM hI p1 p2
  by_cases h : 0 ≤ p1.toInt ∧ p1.toInt ≤ 99
  · by_cases hh : zl_find S.1 p1 < S.1.length
    · refine ⟨0, (-1), zE_a, _, _, Or.inl rfl, fun h => absurd rfl h, hC.chg ((hI1.give p1 p2).touch p1), hb.mono (by rintro r w ⟨-, x', ⟨-, rfl, h9⟩ | ⟨h9, -⟩, rfl⟩ <;> first | exact (⟨rfl, x', rfl, rfl, h9⟩) | exact (absurd hh h9)) (by rintro E w ⟨-, -, h9⟩; exact absurd h h9), hm.mono (by rintro r w ⟨d', ⟨h9, -⟩ | ⟨-, -, rfl, h9⟩ | ⟨-, h9, -⟩, rfl⟩ <;> first | exact (absurd h h9) | exact (⟨d', _, rfl, rfl, h9, fun _ => rfl⟩) | exact (absurd hh h9)) (fun _ _ h => h)⟩
    · refine ⟨0, (zp_gone S), zE_a, _, _, Or.inl rfl, fun h => absurd rfl h, hC.chg (hI1.letIn (zb_has_not (T := (S, hist, t1)) hh) h), hb.mono (by rintro r w ⟨-, x', ⟨h9, -⟩ | ⟨-, rfl, h9⟩, rfl⟩ <;> first | exact (absurd h9 hh) | exact (⟨rfl, x', rfl, rfl, h9⟩)) (by rintro E w ⟨-, -, h9⟩; exact absurd h h9), hm.mono (by rintro r w ⟨d', ⟨h9, -⟩ | ⟨-, h9, -⟩ | ⟨-, -, rfl, h9⟩, rfl⟩ <;> first | exact (absurd h h9) | exact (absurd h9 hh) | exact (⟨d', _, rfl, rfl, h9, fun _ => rfl⟩)) (fun _ _ h => h)⟩
  · refine ⟨1, 0, zE_a, _, _, Or.inr ⟨rfl, rfl⟩, fun _ => rfl, hC, hb.mono (by rintro r w ⟨h9, -⟩; exact absurd h9 h) (by rintro E w ⟨rfl, rfl, -⟩; exact ⟨by decide, rfl, rfl⟩), hm.mono (by rintro r w ⟨d', ⟨-, rfl, h9⟩ | ⟨h9, -⟩ | ⟨h9, -⟩, rfl⟩ <;> first | exact (⟨d', _, rfl, rfl, h9, fun h => absurd h (by decide)⟩) | exact (absurd h9 h) | exact (absurd h9 h)) (fun _ _ h => h)⟩
set_option maxHeartbeats 2000000 in
theorem zX_putIfAbsent {l : Launch} (hl : l.stackTraces = false) (D : va_G) (dA : Nat → ClassId) {x : zb_D} {T : zb_T} {d : zm_D} {U : zm_U} {t : Int32} (hR : zb_R T x) (hM : zm_R U t d) (hC : zL_C T U) (p1 p2 : Int32) : ∃ (k a : Int32) (E : String) (T' : zb_T) (U' : zm_U), (a = 0 ∨ a = 1) ∧ (k = 0 ∨ (k = 1 ∧ E = zE_a)) ∧ (¬ k = 0 → T' = T) ∧ zL_C T' U' ∧ zw_Sp l D dA yX4_putIfAbsent wsX4_putIfAbsent 7 1 6 [.ref 0, .int p1, .int p2] (zb_W x) (zD_post k a T') (zD_px k E x) ∧ zw_Sp l D dA yX5_putIfAbsent wsX5_putIfAbsent 5 0 0 [.ref 0, .int p1, .int p2] (zm_W 0 d) (zG_post k a U') (fun _ _ => False) := by
  obtain ⟨S, hist, t1⟩ := T
  obtain ⟨S2, hist2, W⟩ := U
  have h1 : S = S2 := hC.1
  subst h1
  have h2 : hist = hist2 := hC.2.1
  subst h2
  have hI : zm_I (S, hist, W) := hC.2.2.1
  have hI1 : zp_I S := hI.1
  have hb := zb_putIfAbsent hl D dA x (S, hist, t1) hR hI1 p1 p2
  have hm := zm_putIfAbsent hl D dA d (S, hist, W) t hM hI p1 p2
  by_cases h : 0 ≤ p1.toInt ∧ p1.toInt ≤ 99
  · by_cases hh : zl_find S.1 p1 < S.1.length
    · refine ⟨0, 0, zE_a, _, _, Or.inl rfl, Or.inl rfl, fun h => absurd rfl h, hC.chg (hI1.touch p1), hb.mono (by rintro r w ⟨-, x', ⟨-, rfl, h9⟩ | ⟨h9, -⟩, rfl⟩ <;> first | exact (⟨rfl, x', rfl, rfl, h9⟩) | exact (absurd hh h9)) (by rintro E w ⟨-, -, h9⟩; exact absurd h h9), hm.mono (by rintro r w ⟨d', ⟨h9, -⟩ | ⟨-, -, rfl, h9⟩ | ⟨-, h9, -⟩, rfl⟩ <;> first | exact (absurd h h9) | exact (⟨d', _, rfl, rfl, h9, fun _ => rfl⟩) | exact (absurd hh h9)) (fun _ _ h => h)⟩
    · refine ⟨0, 1, zE_a, _, _, Or.inr rfl, Or.inl rfl, fun h => absurd rfl h, hC.chg (hI1.letIn (zb_has_not (T := (S, hist, t1)) hh) h), hb.mono (by rintro r w ⟨-, x', ⟨h9, -⟩ | ⟨-, rfl, h9⟩, rfl⟩ <;> first | exact (absurd h9 hh) | exact (⟨rfl, x', rfl, rfl, h9⟩)) (by rintro E w ⟨-, -, h9⟩; exact absurd h h9), hm.mono (by rintro r w ⟨d', ⟨h9, -⟩ | ⟨-, h9, -⟩ | ⟨-, -, rfl, h9⟩, rfl⟩ <;> first | exact (absurd h h9) | exact (absurd h9 hh) | exact (⟨d', _, rfl, rfl, h9, fun _ => rfl⟩)) (fun _ _ h => h)⟩
  · refine ⟨1, 0, zE_a, _, _, Or.inl rfl, Or.inr ⟨rfl, rfl⟩, fun _ => rfl, hC, hb.mono (by rintro r w ⟨h9, -⟩; exact absurd h9 h) (by rintro E w ⟨rfl, rfl, -⟩; exact ⟨by decide, rfl, rfl⟩), hm.mono (by rintro r w ⟨d', ⟨-, rfl, h9⟩ | ⟨h9, -⟩ | ⟨h9, -⟩, rfl⟩ <;> first | exact (⟨d', _, rfl, rfl, h9, fun h => absurd h (by decide)⟩) | exact (absurd h9 h) | exact (absurd h9 h)) (fun _ _ h => h)⟩
set_option maxHeartbeats 2000000 in
theorem zX_get {l : Launch} (hl : l.stackTraces = false) (D : va_G) (dA : Nat → ClassId) {x : zb_D} {T : zb_T} {d : zm_D} {U : zm_U} {t : Int32} (hR : zb_R T x) (hM : zm_R U t d) (hC : zL_C T U) (p1 : Int32) : ∃ (k a : Int32) (E : String) (T' : zb_T) (U' : zm_U), (k = 0 ∨ (k = 1 ∧ E = zE_n)) ∧ (¬ k = 0 → T' = T) ∧ zL_C T' U' ∧ zw_Sp l D dA yX4_get wsX4_get 7 1 6 [.ref 0, .int p1] (zb_W x) (zD_post k a T') (zD_px k E x) ∧ zw_Sp l D dA yX5_get wsX5_get 5 0 0 [.ref 0, .int p1] (zm_W 0 d) (zG_post k a U') (fun _ _ => False) := by
  obtain ⟨S, hist, t1⟩ := T
  obtain ⟨S2, hist2, W⟩ := U
  have h1 : S = S2 := hC.1
  subst h1
  have h2 : hist = hist2 := hC.2.1
  subst h2
  have hI : zm_I (S, hist, W) := hC.2.2.1
  have hI1 : zp_I S := hI.1
  have hb := zb_get hl D dA x (S, hist, t1) hR p1
  have hm := zm_get1 hl D dA d (S, hist, W) t hM hI p1
  by_cases hh : zl_find S.1 p1 < S.1.length
  · refine ⟨0, (zl_val S.1 (zl_fo S.1 p1)), zE_a, _, _, Or.inl rfl, fun h => absurd rfl h, hC.chg (hI1.touch p1), hb.mono (by rintro r w ⟨-, rfl, x', h9, rfl⟩ <;> first | exact (⟨rfl, x', rfl, rfl, h9⟩)) (by rintro E w ⟨-, -, h9⟩; exact absurd hh h9), hm.mono (by rintro r w ⟨d', ⟨h9, -⟩ | ⟨-, rfl, h9⟩, rfl⟩ <;> first | exact (absurd hh h9) | exact (⟨d', _, rfl, rfl, h9, fun _ => rfl⟩)) (fun _ _ h => h)⟩
  · refine ⟨1, 0, zE_n, _, _, Or.inr ⟨rfl, rfl⟩, fun _ => rfl, hC, hb.mono (by rintro r w ⟨h9, -⟩; exact absurd h9 hh) (by rintro E w ⟨rfl, rfl, -⟩; exact ⟨by decide, rfl, rfl⟩), hm.mono (by rintro r w ⟨d', ⟨-, rfl, h9⟩ | ⟨h9, -⟩, rfl⟩ <;> first | exact (⟨d', _, rfl, rfl, h9, fun h => absurd h (by decide)⟩) | exact (absurd h9 hh)) (fun _ _ h => h)⟩
set_option maxHeartbeats 2000000 in
theorem zX_remove {l : Launch} (hl : l.stackTraces = false) (D : va_G) (dA : Nat → ClassId) {x : zb_D} {T : zb_T} {d : zm_D} {U : zm_U} {t : Int32} (hR : zb_R T x) (hM : zm_R U t d) (hC : zL_C T U) (p1 : Int32) : ∃ (k a : Int32) (E : String) (T' : zb_T) (U' : zm_U), (k = 0 ∨ (k = 1 ∧ E = zE_n)) ∧ (¬ k = 0 → T' = T) ∧ zL_C T' U' ∧ zw_Sp l D dA yX4_remove wsX4_remove 7 1 6 [.ref 0, .int p1] (zb_W x) (zD_post k a T') (zD_px k E x) ∧ zw_Sp l D dA yX5_remove wsX5_remove 5 0 0 [.ref 0, .int p1] (zm_W 0 d) (zG_post k a U') (fun _ _ => False) := by
  obtain ⟨S, hist, t1⟩ := T
  obtain ⟨S2, hist2, W⟩ := U
  have h1 : S = S2 := hC.1
  subst h1
  have h2 : hist = hist2 := hC.2.1
  subst h2
  have hI : zm_I (S, hist, W) := hC.2.2.1
  have hI1 : zp_I S := hI.1
  have hb := zb_remove hl D dA x (S, hist, t1) hR p1
  have hm := zm_remove hl D dA d (S, hist, W) t hM hI p1
  by_cases hh : zl_find S.1 p1 < S.1.length
  · refine ⟨0, (zl_val S.1 (zl_fo S.1 p1)), zE_a, _, _, Or.inl rfl, fun h => absurd rfl h, hC.chg (hI1.take p1), hb.mono (by rintro r w ⟨-, rfl, x', h9, rfl⟩ <;> first | exact (⟨rfl, x', rfl, rfl, h9⟩)) (by rintro E w ⟨-, -, h9⟩; exact absurd hh h9), hm.mono (by rintro r w ⟨d', ⟨h9, -⟩ | ⟨-, rfl, h9⟩, rfl⟩ <;> first | exact (absurd hh h9) | exact (⟨d', _, rfl, rfl, h9, fun _ => rfl⟩)) (fun _ _ h => h)⟩
  · refine ⟨1, 0, zE_n, _, _, Or.inr ⟨rfl, rfl⟩, fun _ => rfl, hC, hb.mono (by rintro r w ⟨h9, -⟩; exact absurd h9 hh) (by rintro E w ⟨rfl, rfl, -⟩; exact ⟨by decide, rfl, rfl⟩), hm.mono (by rintro r w ⟨d', ⟨-, rfl, h9⟩ | ⟨h9, -⟩, rfl⟩ <;> first | exact (⟨d', _, rfl, rfl, h9, fun h => absurd h (by decide)⟩) | exact (absurd h9 hh)) (fun _ _ h => h)⟩
set_option maxHeartbeats 2000000 in
theorem zX_look {l : Launch} (hl : l.stackTraces = false) (D : va_G) (dA : Nat → ClassId) {x : zb_D} {T : zb_T} {d : zm_D} {U : zm_U} {t : Int32} (hR : zb_R T x) (hM : zm_R U t d) (hC : zL_C T U) (p1 : Int32) : ∃ (k a : Int32) (E : String) (T' : zb_T) (U' : zm_U), (k = 0 ∨ (k = 1 ∧ E = zE_n)) ∧ (¬ k = 0 → T' = T) ∧ zL_C T' U' ∧ zw_Sp l D dA yX4_look wsX4_look 7 1 6 [.ref 0, .int p1] (zb_W x) (zD_post k a T') (zD_px k E x) ∧ zw_Sp l D dA yX5_look wsX5_look 5 0 0 [.ref 0, .int p1] (zm_W 0 d) (zG_post k a U') (fun _ _ => False) := by
  obtain ⟨S, hist, t1⟩ := T
  obtain ⟨S2, hist2, W⟩ := U
  have h1 : S = S2 := hC.1
  subst h1
  have h2 : hist = hist2 := hC.2.1
  subst h2
  have hI : zm_I (S, hist, W) := hC.2.2.1
  have hI1 : zp_I S := hI.1
  have hb := zb_look hl D dA x (S, hist, t1) hR p1
  have hm := zm_look hl D dA d (S, hist, W) t hM hI p1
  by_cases hh : zl_find S.1 p1 < S.1.length
  · refine ⟨0, (zl_val S.1 (zl_fo S.1 p1)), zE_a, _, _, Or.inl rfl, fun h => absurd rfl h, hC, hb.mono (by rintro r w ⟨rfl, rfl, -⟩ <;> first | exact (⟨rfl, x, rfl, rfl, hR⟩)) (by rintro E w ⟨-, -, h9⟩; exact absurd hh h9), hm.mono (by rintro r w ⟨d', ⟨h9, -⟩ | ⟨-, rfl, h9⟩, rfl⟩ <;> first | exact (absurd hh h9) | exact (⟨d', _, rfl, rfl, h9, fun _ => rfl⟩)) (fun _ _ h => h)⟩
  · refine ⟨1, 0, zE_n, _, _, Or.inr ⟨rfl, rfl⟩, fun _ => rfl, hC, hb.mono (by rintro r w ⟨-, -, h9⟩; exact absurd h9 hh) (by rintro E w ⟨rfl, rfl, -⟩; exact ⟨by decide, rfl, rfl⟩), hm.mono (by rintro r w ⟨d', ⟨-, rfl, h9⟩ | ⟨h9, -⟩, rfl⟩ <;> first | exact (⟨d', _, rfl, rfl, h9, fun h => absurd h (by decide)⟩) | exact (absurd h9 hh)) (fun _ _ h => h)⟩
set_option maxHeartbeats 2000000 in
theorem zX_limit {l : Launch} (hl : l.stackTraces = false) (D : va_G) (dA : Nat → ClassId) {x : zb_D} {T : zb_T} {d : zm_D} {U : zm_U} {t : Int32} (hR : zb_R T x) (hM : zm_R U t d) (hC : zL_C T U) (p1 : Int32) : ∃ (k a : Int32) (E : String) (T' : zb_T) (U' : zm_U), (k = 0 ∨ (k = 1 ∧ E = zE_a)) ∧ (¬ k = 0 → T' = T) ∧ zL_C T' U' ∧ zw_Sp l D dA yX4_limit wsX4_limit 7 1 6 [.ref 0, .int p1] (zb_W x) (zD_post k a T') (zD_px k E x) ∧ zw_Sp l D dA yX5_limit wsX5_limit 5 0 0 [.ref 0, .int p1] (zm_W 0 d) (zG_post k a U') (fun _ _ => False) := by
  obtain ⟨S, hist, t1⟩ := T
  obtain ⟨S2, hist2, W⟩ := U
  have h1 : S = S2 := hC.1
  subst h1
  have h2 : hist = hist2 := hC.2.1
  subst h2
  have hI : zm_I (S, hist, W) := hC.2.2.1
  have hI1 : zp_I S := hI.1
  have hb := zb_limit hl D dA x (S, hist, t1) hR hI1 p1
  have hm := zm_limit hl D dA d (S, hist, W) t hM hI p1
  by_cases h : 1 ≤ p1.toInt ∧ p1.toInt ≤ 12
  · obtain ⟨mm, m1, m2, rfl⟩ := zL_nat (N := 12) (by decide) h
    refine ⟨0, (nI (S.1.length - mm)), zE_a, _, _, Or.inl rfl, fun h => absurd rfl h, hC.chg (hI1.lim m1 m2), hb.mono (by rintro r w ⟨mm', n1, n2, e9, rfl, x', h9, rfl⟩ <;> first | exact (by cases zL_inj (by omega) (by omega) e9; exact ⟨rfl, x', rfl, rfl, h9⟩)) (by rintro E w ⟨-, -, h9⟩; exact absurd h h9), hm.mono (by rintro r w ⟨d', ⟨h9, -⟩ | ⟨mm', n1, n2, e9, rfl, h9⟩, rfl⟩ <;> first | exact (absurd h h9) | exact (by cases zL_inj (by omega) (by omega) e9; exact ⟨d', _, rfl, rfl, h9, fun _ => rfl⟩)) (fun _ _ h => h)⟩
  · refine ⟨1, 0, zE_a, _, _, Or.inr ⟨rfl, rfl⟩, fun _ => rfl, hC, hb.mono (by rintro r w ⟨mm', n1, n2, rfl, -⟩; exact absurd (zL_rng n1 n2 (by decide)) h) (by rintro E w ⟨rfl, rfl, -⟩; exact ⟨by decide, rfl, rfl⟩), hm.mono (by rintro r w ⟨d', ⟨-, rfl, h9⟩ | ⟨mm', n1, n2, rfl, -⟩, rfl⟩ <;> first | exact (⟨d', _, rfl, rfl, h9, fun h => absurd h (by decide)⟩) | exact (absurd (zL_rng n1 n2 (by decide)) h)) (fun _ _ h => h)⟩
set_option maxHeartbeats 2000000 in
theorem zX_way {l : Launch} (hl : l.stackTraces = false) (D : va_G) (dA : Nat → ClassId) {x : zb_D} {T : zb_T} {d : zm_D} {U : zm_U} {t : Int32} (hR : zb_R T x) (hM : zm_R U t d) (hC : zL_C T U) (p1 : Int32) : ∃ (k a : Int32) (E : String) (T' : zb_T) (U' : zm_U), (k = 0 ∨ (k = 1 ∧ E = zE_a)) ∧ (¬ k = 0 → T' = T) ∧ zL_C T' U' ∧ zw_Sp l D dA yX4_way wsX4_way 7 1 6 [.ref 0, .int p1] (zb_W x) (zD_post k a T') (zD_px k E x) ∧ zw_Sp l D dA yX5_way wsX5_way 5 0 0 [.ref 0, .int p1] (zm_W 0 d) (zG_post k a U') (fun _ _ => False) := by
  obtain ⟨S, hist, t1⟩ := T
  obtain ⟨S2, hist2, W⟩ := U
  have h1 : S = S2 := hC.1
  subst h1
  have h2 : hist = hist2 := hC.2.1
  subst h2
  have hI : zm_I (S, hist, W) := hC.2.2.1
  have hI1 : zp_I S := hI.1
  have hb := zb_way hl D dA x (S, hist, t1) hR p1
  have hm := zm_way hl D dA d (S, hist, W) t hM hI p1
  by_cases h : p1 = 99 ∨ p1 = 97
  · refine ⟨0, S.2.2.2, zE_a, _, _, Or.inl rfl, fun h => absurd rfl h, hC.chg (hI1.way h), hb.mono (by rintro r w ⟨-, rfl, x', h9, rfl⟩ <;> first | exact (⟨rfl, x', rfl, rfl, h9⟩)) (by rintro E w ⟨-, -, h9⟩; exact absurd h h9), hm.mono (by rintro r w ⟨d', ⟨h9, -⟩ | ⟨-, rfl, h9⟩, rfl⟩ <;> first | exact (absurd h h9) | exact (⟨d', _, rfl, rfl, h9, fun _ => rfl⟩)) (fun _ _ h => h)⟩
  · refine ⟨1, 0, zE_a, _, _, Or.inr ⟨rfl, rfl⟩, fun _ => rfl, hC, hb.mono (by rintro r w ⟨h9, -⟩; exact absurd h9 h) (by rintro E w ⟨rfl, rfl, -⟩; exact ⟨by decide, rfl, rfl⟩), hm.mono (by rintro r w ⟨d', ⟨-, rfl, h9⟩ | ⟨h9, -⟩, rfl⟩ <;> first | exact (⟨d', _, rfl, rfl, h9, fun h => absurd h (by decide)⟩) | exact (absurd h9 h)) (fun _ _ h => h)⟩
set_option maxHeartbeats 2000000 in
theorem zX_keyAt {l : Launch} (hl : l.stackTraces = false) (D : va_G) (dA : Nat → ClassId) {x : zb_D} {T : zb_T} {d : zm_D} {U : zm_U} {t : Int32} (hR : zb_R T x) (hM : zm_R U t d) (hC : zL_C T U) (p1 p2 : Int32) : ∃ (k a : Int32) (E : String) (T' : zb_T) (U' : zm_U), (k = 0 ∨ (k = 1 ∧ E = zE_a) ∨ (k = 2 ∧ E = zE_i)) ∧ (¬ k = 0 → T' = T) ∧ zL_C T' U' ∧ zw_Sp l D dA yX4_keyAt wsX4_keyAt 7 2 12 [.ref 0, .int p1, .int p2] (zb_W x) (zD_post k a T') (zD_px k E x) ∧ zw_Sp l D dA yX5_keyAt wsX5_keyAt 5 0 0 [.ref 0, .int p1, .int p2] (zm_W 0 d) (zG_post k a U') (fun _ _ => False) := by
  obtain ⟨S, hist, t1⟩ := T
  obtain ⟨S2, hist2, W⟩ := U
  have h1 : S = S2 := hC.1
  subst h1
  have h2 : hist = hist2 := hC.2.1
  subst h2
  have hI : zm_I (S, hist, W) := hC.2.2.1
  have hI1 : zp_I S := hI.1
  have hb := zb_keyAt hl D dA x (S, hist, t1) hR p1 p2
  have hm := zm_keyAt hl D dA d (S, hist, W) t hM hI p1 p2
  by_cases h : p1 = 99 ∨ p1 = 97
  · by_cases hh : (zf_ix p2 S.1.length).isSome = true
    · refine ⟨0, (zl_key (zp_row S p1) (zf_ix p2 (zp_row S p1).length)), zE_a, _, _, Or.inl rfl, fun h => absurd rfl h, hC, hb.mono (by rintro r w ⟨rfl, rfl, -⟩ <;> first | exact (⟨rfl, x, rfl, rfl, hR⟩)) (by rintro E w ⟨-, ⟨-, h9⟩ | ⟨-, -, h9⟩⟩ <;> first | exact (absurd h h9) | exact (absurd hh h9)), hm.mono (by rintro r w ⟨d', ⟨h9, -⟩ | ⟨-, h9, -⟩ | ⟨-, -, rfl, h9⟩, rfl⟩ <;> first | exact (absurd h h9) | exact (absurd hh h9) | exact (⟨d', _, rfl, rfl, h9, fun _ => rfl⟩)) (fun _ _ h => h)⟩
    · refine ⟨2, 0, zE_i, _, _, Or.inr (Or.inr ⟨rfl, rfl⟩), fun _ => rfl, hC, hb.mono (by rintro r w ⟨-, -, -, h9⟩; exact absurd h9 hh) (by rintro E w ⟨rfl, ⟨-, h9⟩ | ⟨rfl, -⟩⟩ <;> first | exact (absurd h h9) | exact (⟨by decide, rfl, rfl⟩)), hm.mono (by rintro r w ⟨d', ⟨h9, -⟩ | ⟨-, -, rfl, h9⟩ | ⟨-, h9, -⟩, rfl⟩ <;> first | exact (absurd h h9) | exact (⟨d', _, rfl, rfl, h9, fun h => absurd h (by decide)⟩) | exact (absurd h9 hh)) (fun _ _ h => h)⟩
  · refine ⟨1, 0, zE_a, _, _, Or.inr (Or.inl ⟨rfl, rfl⟩), fun _ => rfl, hC, hb.mono (by rintro r w ⟨-, -, h9, -⟩; exact absurd h9 h) (by rintro E w ⟨rfl, ⟨rfl, -⟩ | ⟨-, h9, -⟩⟩ <;> first | exact (⟨by decide, rfl, rfl⟩) | exact (absurd h9 h)), hm.mono (by rintro r w ⟨d', ⟨-, rfl, h9⟩ | ⟨h9, -⟩ | ⟨h9, -⟩, rfl⟩ <;> first | exact (⟨d', _, rfl, rfl, h9, fun h => absurd h (by decide)⟩) | exact (absurd h9 h) | exact (absurd h9 h)) (fun _ _ h => h)⟩
set_option maxHeartbeats 2000000 in
theorem zX_placeOf {l : Launch} (hl : l.stackTraces = false) (D : va_G) (dA : Nat → ClassId) {x : zb_D} {T : zb_T} {d : zm_D} {U : zm_U} {t : Int32} (hR : zb_R T x) (hM : zm_R U t d) (hC : zL_C T U) (p1 p2 : Int32) : ∃ (k a : Int32) (E : String) (T' : zb_T) (U' : zm_U), (k = 0 ∨ (k = 1 ∧ E = zE_a) ∨ (k = 2 ∧ E = zE_n)) ∧ (¬ k = 0 → T' = T) ∧ zL_C T' U' ∧ zw_Sp l D dA yX4_placeOf wsX4_placeOf 7 2 12 [.ref 0, .int p1, .int p2] (zb_W x) (zD_post k a T') (zD_px k E x) ∧ zw_Sp l D dA yX5_placeOf wsX5_placeOf 5 0 0 [.ref 0, .int p1, .int p2] (zm_W 0 d) (zG_post k a U') (fun _ _ => False) := by
  obtain ⟨S, hist, t1⟩ := T
  obtain ⟨S2, hist2, W⟩ := U
  have h1 : S = S2 := hC.1
  subst h1
  have h2 : hist = hist2 := hC.2.1
  subst h2
  have hI : zm_I (S, hist, W) := hC.2.2.1
  have hI1 : zp_I S := hI.1
  have hb := zb_placeOf hl D dA x (S, hist, t1) hR p1 p2
  have hm := zm_placeOf hl D dA d (S, hist, W) t hM hI p1 p2
  by_cases h : p1 = 99 ∨ p1 = 97
  · by_cases hh : zl_find S.1 p2 < S.1.length
    · refine ⟨0, (zl_fi (zp_row S p1) p2), zE_a, _, _, Or.inl rfl, fun h => absurd rfl h, hC, hb.mono (by rintro r w ⟨rfl, rfl, -⟩ <;> first | exact (⟨rfl, x, rfl, rfl, hR⟩)) (by rintro E w ⟨-, ⟨-, h9⟩ | ⟨-, -, h9⟩⟩ <;> first | exact (absurd h h9) | exact (absurd hh h9)), hm.mono (by rintro r w ⟨d', ⟨h9, -⟩ | ⟨-, h9, -⟩ | ⟨-, -, rfl, h9⟩, rfl⟩ <;> first | exact (absurd h h9) | exact (absurd hh h9) | exact (⟨d', _, rfl, rfl, h9, fun _ => rfl⟩)) (fun _ _ h => h)⟩
    · refine ⟨2, 0, zE_n, _, _, Or.inr (Or.inr ⟨rfl, rfl⟩), fun _ => rfl, hC, hb.mono (by rintro r w ⟨-, -, -, h9⟩; exact absurd h9 hh) (by rintro E w ⟨rfl, ⟨-, h9⟩ | ⟨rfl, -⟩⟩ <;> first | exact (absurd h h9) | exact (⟨by decide, rfl, rfl⟩)), hm.mono (by rintro r w ⟨d', ⟨h9, -⟩ | ⟨-, -, rfl, h9⟩ | ⟨-, h9, -⟩, rfl⟩ <;> first | exact (absurd h h9) | exact (⟨d', _, rfl, rfl, h9, fun h => absurd h (by decide)⟩) | exact (absurd h9 hh)) (fun _ _ h => h)⟩
  · refine ⟨1, 0, zE_a, _, _, Or.inr (Or.inl ⟨rfl, rfl⟩), fun _ => rfl, hC, hb.mono (by rintro r w ⟨-, -, h9, -⟩; exact absurd h9 h) (by rintro E w ⟨rfl, ⟨rfl, -⟩ | ⟨-, h9, -⟩⟩ <;> first | exact (⟨by decide, rfl, rfl⟩) | exact (absurd h9 h)), hm.mono (by rintro r w ⟨d', ⟨-, rfl, h9⟩ | ⟨h9, -⟩ | ⟨h9, -⟩, rfl⟩ <;> first | exact (⟨d', _, rfl, rfl, h9, fun h => absurd h (by decide)⟩) | exact (absurd h9 h) | exact (absurd h9 h)) (fun _ _ h => h)⟩
set_option maxHeartbeats 2000000 in
theorem zX_setAt {l : Launch} (hl : l.stackTraces = false) (D : va_G) (dA : Nat → ClassId) {x : zb_D} {T : zb_T} {d : zm_D} {U : zm_U} {t : Int32} (hR : zb_R T x) (hM : zm_R U t d) (hC : zL_C T U) (p1 p2 p3 : Int32) : ∃ (k a : Int32) (E : String) (T' : zb_T) (U' : zm_U), (k = 0 ∨ (k = 1 ∧ E = zE_a) ∨ (k = 2 ∧ E = zE_i)) ∧ (¬ k = 0 → T' = T) ∧ zL_C T' U' ∧ zw_Sp l D dA yX4_setAt wsX4_setAt 7 2 12 [.ref 0, .int p1, .int p2, .int p3] (zb_W x) (zD_post k a T') (zD_px k E x) ∧ zw_Sp l D dA yX5_setAt wsX5_setAt 5 0 0 [.ref 0, .int p1, .int p2, .int p3] (zm_W 0 d) (zG_post k a U') (fun _ _ => False) := by
  obtain ⟨S, hist, t1⟩ := T
  obtain ⟨S2, hist2, W⟩ := U
  have h1 : S = S2 := hC.1
  subst h1
  have h2 : hist = hist2 := hC.2.1
  subst h2
  have hI : zm_I (S, hist, W) := hC.2.2.1
  have hI1 : zp_I S := hI.1
  have hb := zb_setAt hl D dA x (S, hist, t1) hR p1 p2 p3
  have hm := zm_setAt hl D dA d (S, hist, W) t hM hI p1 p2 p3
  by_cases h : p1 = 99 ∨ p1 = 97
  · by_cases hh : (zf_ix p2 S.1.length).isSome = true
    · refine ⟨0, (zl_val (zp_row S p1) (zf_ix p2 (zp_row S p1).length)), zE_a, _, _, Or.inl rfl, fun h => absurd rfl h, hC.chg (hI1.give (zl_key (zp_row S p1) (zf_ix p2 (zp_row S p1).length)) p3), hb.mono (by rintro r w ⟨rfl, -, -, x', h9, rfl⟩ <;> first | exact (⟨rfl, x', rfl, rfl, h9⟩)) (by rintro E w ⟨-, ⟨-, h9⟩ | ⟨-, -, h9⟩⟩ <;> first | exact (absurd h h9) | exact (absurd hh h9)), hm.mono (by rintro r w ⟨d', ⟨h9, -⟩ | ⟨-, h9, -⟩ | ⟨-, -, rfl, h9⟩, rfl⟩ <;> first | exact (absurd h h9) | exact (absurd hh h9) | exact (⟨d', _, rfl, rfl, h9, fun _ => rfl⟩)) (fun _ _ h => h)⟩
    · refine ⟨2, 0, zE_i, _, _, Or.inr (Or.inr ⟨rfl, rfl⟩), fun _ => rfl, hC, hb.mono (by rintro r w ⟨-, -, h9, -⟩; exact absurd h9 hh) (by rintro E w ⟨rfl, ⟨-, h9⟩ | ⟨rfl, -⟩⟩ <;> first | exact (absurd h h9) | exact (⟨by decide, rfl, rfl⟩)), hm.mono (by rintro r w ⟨d', ⟨h9, -⟩ | ⟨-, -, rfl, h9⟩ | ⟨-, h9, -⟩, rfl⟩ <;> first | exact (absurd h h9) | exact (⟨d', _, rfl, rfl, h9, fun h => absurd h (by decide)⟩) | exact (absurd h9 hh)) (fun _ _ h => h)⟩
  · refine ⟨1, 0, zE_a, _, _, Or.inr (Or.inl ⟨rfl, rfl⟩), fun _ => rfl, hC, hb.mono (by rintro r w ⟨-, h9, -⟩; exact absurd h9 h) (by rintro E w ⟨rfl, ⟨rfl, -⟩ | ⟨-, h9, -⟩⟩ <;> first | exact (⟨by decide, rfl, rfl⟩) | exact (absurd h9 h)), hm.mono (by rintro r w ⟨d', ⟨-, rfl, h9⟩ | ⟨h9, -⟩ | ⟨h9, -⟩, rfl⟩ <;> first | exact (⟨d', _, rfl, rfl, h9, fun h => absurd h (by decide)⟩) | exact (absurd h9 h) | exact (absurd h9 h)) (fun _ _ h => h)⟩
set_option maxHeartbeats 2000000 in
theorem zX_removeAt {l : Launch} (hl : l.stackTraces = false) (D : va_G) (dA : Nat → ClassId) {x : zb_D} {T : zb_T} {d : zm_D} {U : zm_U} {t : Int32} (hR : zb_R T x) (hM : zm_R U t d) (hC : zL_C T U) (p1 p2 : Int32) : ∃ (k a : Int32) (E : String) (T' : zb_T) (U' : zm_U), (k = 0 ∨ (k = 1 ∧ E = zE_a) ∨ (k = 2 ∧ E = zE_i)) ∧ (¬ k = 0 → T' = T) ∧ zL_C T' U' ∧ zw_Sp l D dA yX4_removeAt wsX4_removeAt 7 2 12 [.ref 0, .int p1, .int p2] (zb_W x) (zD_post k a T') (zD_px k E x) ∧ zw_Sp l D dA yX5_removeAt wsX5_removeAt 5 0 0 [.ref 0, .int p1, .int p2] (zm_W 0 d) (zG_post k a U') (fun _ _ => False) := by
  obtain ⟨S, hist, t1⟩ := T
  obtain ⟨S2, hist2, W⟩ := U
  have h1 : S = S2 := hC.1
  subst h1
  have h2 : hist = hist2 := hC.2.1
  subst h2
  have hI : zm_I (S, hist, W) := hC.2.2.1
  have hI1 : zp_I S := hI.1
  have hb := zb_removeAt hl D dA x (S, hist, t1) hR p1 p2
  have hm := zm_removeAt hl D dA d (S, hist, W) t hM hI p1 p2
  by_cases h : p1 = 99 ∨ p1 = 97
  · by_cases hh : (zf_ix p2 S.1.length).isSome = true
    · refine ⟨0, (zl_key (zp_row S p1) (zf_ix p2 (zp_row S p1).length)), zE_a, _, _, Or.inl rfl, fun h => absurd rfl h, hC.chg (hI1.take (zl_key (zp_row S p1) (zf_ix p2 (zp_row S p1).length))), hb.mono (by rintro r w ⟨rfl, -, -, x', h9, rfl⟩ <;> first | exact (⟨rfl, x', rfl, rfl, h9⟩)) (by rintro E w ⟨-, ⟨-, h9⟩ | ⟨-, -, h9⟩⟩ <;> first | exact (absurd h h9) | exact (absurd hh h9)), hm.mono (by rintro r w ⟨d', ⟨h9, -⟩ | ⟨-, h9, -⟩ | ⟨-, -, rfl, h9⟩, rfl⟩ <;> first | exact (absurd h h9) | exact (absurd hh h9) | exact (⟨d', _, rfl, rfl, h9, fun _ => rfl⟩)) (fun _ _ h => h)⟩
    · refine ⟨2, 0, zE_i, _, _, Or.inr (Or.inr ⟨rfl, rfl⟩), fun _ => rfl, hC, hb.mono (by rintro r w ⟨-, -, h9, -⟩; exact absurd h9 hh) (by rintro E w ⟨rfl, ⟨-, h9⟩ | ⟨rfl, -⟩⟩ <;> first | exact (absurd h h9) | exact (⟨by decide, rfl, rfl⟩)), hm.mono (by rintro r w ⟨d', ⟨h9, -⟩ | ⟨-, -, rfl, h9⟩ | ⟨-, h9, -⟩, rfl⟩ <;> first | exact (absurd h h9) | exact (⟨d', _, rfl, rfl, h9, fun h => absurd h (by decide)⟩) | exact (absurd h9 hh)) (fun _ _ h => h)⟩
  · refine ⟨1, 0, zE_a, _, _, Or.inr (Or.inl ⟨rfl, rfl⟩), fun _ => rfl, hC, hb.mono (by rintro r w ⟨-, h9, -⟩; exact absurd h9 h) (by rintro E w ⟨rfl, ⟨rfl, -⟩ | ⟨-, h9, -⟩⟩ <;> first | exact (⟨by decide, rfl, rfl⟩) | exact (absurd h9 h)), hm.mono (by rintro r w ⟨d', ⟨-, rfl, h9⟩ | ⟨h9, -⟩ | ⟨h9, -⟩, rfl⟩ <;> first | exact (⟨d', _, rfl, rfl, h9, fun h => absurd h (by decide)⟩) | exact (absurd h9 h) | exact (absurd h9 h)) (fun _ _ h => h)⟩
set_option maxHeartbeats 2000000 in
theorem zX_thin {l : Launch} (hl : l.stackTraces = false) (D : va_G) (dA : Nat → ClassId) {x : zb_D} {T : zb_T} {d : zm_D} {U : zm_U} {t : Int32} (hR : zb_R T x) (hM : zm_R U t d) (hC : zL_C T U) (p1 p2 : Int32) : ∃ (k a : Int32) (E : String) (T' : zb_T) (U' : zm_U), (k = 0 ∨ (k = 1 ∧ E = zE_a)) ∧ (¬ k = 0 → T' = T) ∧ zL_C T' U' ∧ zw_Sp l D dA yX4_thin wsX4_thin 7 2 12 [.ref 0, .int p1, .int p2] (zb_W x) (zD_post k a T') (zD_px k E x) ∧ zw_Sp l D dA yX5_thin wsX5_thin 5 0 0 [.ref 0, .int p1, .int p2] (zm_W 0 d) (zG_post k a U') (fun _ _ => False) := by
  obtain ⟨S, hist, t1⟩ := T
  obtain ⟨S2, hist2, W⟩ := U
  have h1 : S = S2 := hC.1
  subst h1
  have h2 : hist = hist2 := hC.2.1
  subst h2
  have hI : zm_I (S, hist, W) := hC.2.2.1
  have hI1 : zp_I S := hI.1
  have hb := zb_thin hl D dA x (S, hist, t1) hR p1 p2
  have hm := zm_thin hl D dA d (S, hist, W) t hM hI p1 p2
  by_cases h : (p1 = 99 ∨ p1 = 97) ∧ 1 ≤ p2.toInt ∧ p2.toInt ≤ 12
  · obtain ⟨ee, m1, m2, rfl⟩ := zL_nat (N := 12) (by decide) h.2
    by_cases hh : S.1.length < ee
    · refine ⟨0, (nI (S.1.length / ee)), zE_a, _, _, Or.inl rfl, fun h => absurd rfl h, hC, hb.mono (by rintro r w ⟨ee', n1, n2, e9, -, rfl, x', h9, rfl⟩ <;> first | exact (by cases zL_inj (by omega) (by omega) e9; exact h9.elim (fun h9 => ⟨rfl, x', rfl, rfl, h9.2⟩) (fun h9 => absurd hh (Nat.not_lt.mpr h9.1)))) (by rintro E w ⟨-, -, h9⟩; exact absurd h h9), hm.mono (by rintro r w ⟨d', ⟨h9, -⟩ | ⟨ee', n1, n2, e9, -, rfl, h9⟩, rfl⟩ <;> first | exact (absurd h h9) | exact (by cases zL_inj (by omega) (by omega) e9; exact h9.elim (fun h9 => ⟨d', _, rfl, rfl, h9.2, fun _ => rfl⟩) (fun h9 => absurd hh (Nat.not_lt.mpr h9.1)))) (fun _ _ h => h)⟩
    · refine ⟨0, (nI (S.1.length / ee)), zE_a, _, _, Or.inl rfl, fun h => absurd rfl h, hC.chg (zp_each_I p1 ee (S.1.length / ee) hI1), hb.mono (by rintro r w ⟨ee', n1, n2, e9, -, rfl, x', h9, rfl⟩ <;> first | exact (by cases zL_inj (by omega) (by omega) e9; exact h9.elim (fun h9 => absurd h9.1 hh) (fun h9 => ⟨rfl, x', rfl, rfl, h9.2⟩))) (by rintro E w ⟨-, -, h9⟩; exact absurd h h9), hm.mono (by rintro r w ⟨d', ⟨h9, -⟩ | ⟨ee', n1, n2, e9, -, rfl, h9⟩, rfl⟩ <;> first | exact (absurd h h9) | exact (by cases zL_inj (by omega) (by omega) e9; exact h9.elim (fun h9 => absurd h9.1 hh) (fun h9 => ⟨d', _, rfl, rfl, h9.2, fun _ => rfl⟩))) (fun _ _ h => h)⟩
  · refine ⟨1, 0, zE_a, _, _, Or.inr ⟨rfl, rfl⟩, fun _ => rfl, hC, hb.mono (by rintro r w ⟨ee', n1, n2, rfl, h9, -⟩; exact absurd ⟨h9, zL_rng n1 n2 (by decide)⟩ h) (by rintro E w ⟨rfl, rfl, -⟩; exact ⟨by decide, rfl, rfl⟩), hm.mono (by rintro r w ⟨d', ⟨-, rfl, h9⟩ | ⟨ee', n1, n2, rfl, h9, -⟩, rfl⟩ <;> first | exact (⟨d', _, rfl, rfl, h9, fun h => absurd h (by decide)⟩) | exact (absurd ⟨h9, zL_rng n1 n2 (by decide)⟩ h)) (fun _ _ h => h)⟩
set_option maxHeartbeats 2000000 in
theorem zX_walk {l : Launch} (hl : l.stackTraces = false) (D : va_G) (dA : Nat → ClassId) {x : zb_D} {T : zb_T} {d : zm_D} {U : zm_U} {t : Int32} (hR : zb_R T x) (hM : zm_R U t d) (hC : zL_C T U) (p1 : Int32) : ∃ (k a : Int32) (E : String) (T' : zb_T) (U' : zm_U), (k = 0 ∨ (k = 1 ∧ E = zE_a)) ∧ (¬ k = 0 → T' = T) ∧ zL_C T' U' ∧ zw_Sp l D dA yX4_walk wsX4_walk 7 1 6 [.ref 0, .int p1] (zb_W x) (zD_post k a T') (zD_px k E x) ∧ zw_Sp l D dA yX5_walk wsX5_walk 5 0 0 [.ref 0, .int p1] (zm_W 0 d) (zG_post k a U') (fun _ _ => False) := by
  obtain ⟨S, hist, t1⟩ := T
  obtain ⟨S2, hist2, W⟩ := U
  have h1 : S = S2 := hC.1
  subst h1
  have h2 : hist = hist2 := hC.2.1
  subst h2
  have hI : zm_I (S, hist, W) := hC.2.2.1
  have hI1 : zp_I S := hI.1
  have hb := zb_walk hl D dA x (S, hist, t1) hR p1
  have hm := zm_walk hl D dA d (S, hist, W) t hM hI p1
  by_cases h : p1 = 99 ∨ p1 = 97
  · refine ⟨0, (nI S.1.length), zE_a, _, _, Or.inl rfl, fun h => absurd rfl h, hC.walk h, hb.mono (by rintro r w ⟨-, rfl, x', h9, rfl⟩ <;> first | exact (⟨rfl, x', rfl, rfl, h9⟩)) (by rintro E w ⟨-, -, h9⟩; exact absurd h h9), hm.mono (by rintro r w ⟨d', ⟨h9, -⟩ | ⟨-, rfl, h9⟩, rfl⟩ <;> first | exact (absurd h h9) | exact (⟨d', _, rfl, rfl, h9, fun _ => rfl⟩)) (fun _ _ h => h)⟩
  · refine ⟨1, 0, zE_a, _, _, Or.inr ⟨rfl, rfl⟩, fun _ => rfl, hC, hb.mono (by rintro r w ⟨h9, -⟩; exact absurd h9 h) (by rintro E w ⟨rfl, rfl, -⟩; exact ⟨by decide, rfl, rfl⟩), hm.mono (by rintro r w ⟨d', ⟨-, rfl, h9⟩ | ⟨h9, -⟩, rfl⟩ <;> first | exact (⟨d', _, rfl, rfl, h9, fun h => absurd h (by decide)⟩) | exact (absurd h9 h)) (fun _ _ h => h)⟩
set_option maxHeartbeats 2000000 in
theorem zX_step {l : Launch} (hl : l.stackTraces = false) (D : va_G) (dA : Nat → ClassId) {x : zb_D} {T : zb_T} {d : zm_D} {U : zm_U} {t : Int32} (hR : zb_R T x) (hM : zm_R U t d) (hC : zL_C T U) : ∃ (k a : Int32) (E : String) (T' : zb_T) (U' : zm_U), (k = 0 ∨ (k = 1 ∧ E = zE_s) ∨ (k = 2 ∧ E = zE_n)) ∧ (¬ k = 0 → T' = T) ∧ zL_C T' U' ∧ zw_Sp l D dA yX4_step wsX4_step 7 1 6 [.ref 0] (zb_W x) (zD_post k a T') (zD_px k E x) ∧ zw_Sp l D dA yX5_step wsX5_step 5 0 0 [.ref 0] (zm_W 0 d) (zG_post k a U') (fun _ _ => False) := by
  obtain ⟨S, hist, t1⟩ := T
  obtain ⟨S2, hist2, W⟩ := U
  have h1 : S = S2 := hC.1
  subst h1
  have h2 : hist = hist2 := hC.2.1
  subst h2
  have hI : zm_I (S, hist, W) := hC.2.2.1
  have hI1 : zp_I S := hI.1
  have hb := zb_step hl D dA x (S, hist, t1) hR
  have hm := zm_step hl D dA d (S, hist, W) t hM
  by_cases h : W.1 = 0
  · have h' : t1.1 = 0 := hC.2.2.2.2.1.trans h
    refine ⟨1, 0, zE_s, _, _, Or.inr (Or.inl ⟨rfl, rfl⟩), fun _ => rfl, hC, hb.mono (by rintro r w ⟨h9, -⟩; exact absurd h' h9) (by rintro E w ⟨rfl, ⟨rfl, -⟩ | ⟨-, h9, -⟩⟩ <;> first | exact (⟨by decide, rfl, rfl⟩) | exact (absurd h' h9)), hm.mono (by rintro r w ⟨d', ⟨-, rfl, h9⟩ | ⟨h9, -⟩ | ⟨h9, -⟩, rfl⟩ <;> first | exact (⟨d', _, rfl, rfl, h9, fun h => absurd h (by decide)⟩) | exact (absurd h (by rw [show W.1 = 1 from h9]; decide)) | exact (absurd h (by rw [show W.1 = 1 from h9]; decide))) (fun _ _ h => h)⟩
  · have h' : ¬ t1.1 = 0 := fun q => h (hC.2.2.2.2.1.symm.trans q)
    have h3 : W.1 = 1 := hC.2.2.2.1.resolve_left h
    obtain ⟨w1, n, w2, w3, w4, w5, w6⟩ := hC.2.2.2.2.2 h3
    have hL : (zp_row S t1.2.1).length ≤ 12 := by rw [zp_row_len hI1.1]; exact hI1.1.l12
    by_cases hn : n < (zp_row S t1.2.1).length
    · obtain ⟨q, hq⟩ : ∃ q, (zp_row S t1.2.1)[n]? = some q := ⟨_, List.getElem?_eq_getElem hn⟩
      have e4 : W.2.1 = q.1 :: ((zp_row S t1.2.1).drop (n + 1)).map (·.1) := by
        have e5 : W.2.1 = ((zp_row S t1.2.1).drop n).map (·.1) := w4
        rw [e5, List.drop_eq_getElem_cons hn]
        rw [(List.getElem?_eq_some_iff.mp hq).2]
        rfl
      have e6 : zl_key (zp_row S t1.2.1) (zf_ix t1.2.2.1 (zp_row S t1.2.1).length) = q.1 := by
        rw [show t1.2.2.1 = nI n from w2]
        exact zl_key_at hL hq
      have hix : (zf_ix t1.2.2.1 (zp_row S t1.2.1).length).isSome = true := by
        rw [show t1.2.2.1 = nI n from w2, zf_ix_nI (by omega), if_pos hn]
        rfl
      refine ⟨0, q.1, zE_a, _, _, Or.inl rfl, fun h => absurd rfl h, hC.step h3 w1 w2 hn hq, hb.mono ?_ ?_, hm.mono ?_ (fun _ _ h => h)⟩
      · rintro r w ⟨-, -, rfl, x', h9, rfl⟩
        exact ⟨rfl, x', rfl, by rw [← e6], h9⟩
      · rintro E w ⟨-, ⟨-, h9⟩ | ⟨-, -, h9⟩⟩
        · exact absurd h9 h'
        · exact absurd hix h9
      · rintro r w ⟨d', ⟨h9, -⟩ | ⟨-, h9, -⟩ | ⟨-, k9, rest9, h8, rfl, h9⟩, rfl⟩
        · exact absurd h9 h
        · have h9 : W.2.1 = [] := h9
          rw [e4] at h9
          cases h9
        · have h8 : W.2.1 = k9 :: rest9 := h8
          rw [e4] at h8
          cases h8
          exact ⟨d', _, rfl, rfl, h9, fun _ => rfl⟩
    · have hge : (zp_row S t1.2.1).length ≤ n := Nat.not_lt.mp hn
      have e5 : W.2.1 = [] := by
        have e5 : W.2.1 = ((zp_row S t1.2.1).drop n).map (·.1) := w4
        rw [e5, List.drop_eq_nil_of_le hge]
        rfl
      have hix : ¬ (zf_ix t1.2.2.1 (zp_row S t1.2.1).length).isSome = true := by
        rw [show t1.2.2.1 = nI n from w2, zf_ix_nI (by have : n ≤ (zp_row S t1.2.1).length := w3; omega), if_neg hn]
        decide
      refine ⟨2, 0, zE_n, _, _, Or.inr (Or.inr ⟨rfl, rfl⟩), fun _ => rfl, hC, hb.mono (by rintro r w ⟨-, h9, -⟩; exact absurd h9 hix) (by rintro E w ⟨rfl, ⟨-, h9⟩ | ⟨rfl, -⟩⟩ <;> first | exact (absurd h9 h') | exact (⟨by decide, rfl, rfl⟩)), hm.mono (by rintro r w ⟨d', ⟨h9, -⟩ | ⟨-, -, rfl, h9⟩ | ⟨-, k9, rest9, h8, -⟩, rfl⟩ <;> first | exact (absurd h9 h) | exact (⟨d', _, rfl, rfl, h9, fun h => absurd h (by decide)⟩) | exact (absurd (e5.symm.trans h8) (by intro q; cases q))) (fun _ _ h => h)⟩
set_option maxHeartbeats 2000000 in
theorem zX_cut {l : Launch} (hl : l.stackTraces = false) (D : va_G) (dA : Nat → ClassId) {x : zb_D} {T : zb_T} {d : zm_D} {U : zm_U} {t : Int32} (hR : zb_R T x) (hM : zm_R U t d) (hC : zL_C T U) : ∃ (k a : Int32) (E : String) (T' : zb_T) (U' : zm_U), (k = 0 ∨ (k = 1 ∧ E = zE_s)) ∧ (¬ k = 0 → T' = T) ∧ zL_C T' U' ∧ zw_Sp l D dA yX4_cut wsX4_cut 7 1 6 [.ref 0] (zb_W x) (zD_post k a T') (zD_px k E x) ∧ zw_Sp l D dA yX5_cut wsX5_cut 5 0 0 [.ref 0] (zm_W 0 d) (zG_post k a U') (fun _ _ => False) := by
  obtain ⟨S, hist, t1⟩ := T
  obtain ⟨S2, hist2, W⟩ := U
  have h1 : S = S2 := hC.1
  subst h1
  have h2 : hist = hist2 := hC.2.1
  subst h2
  have hI : zm_I (S, hist, W) := hC.2.2.1
  have hI1 : zp_I S := hI.1
  have hb := zb_cut hl D dA x (S, hist, t1) hR
  have hlast := hC.last
  have hm := zm_cut hl D dA d (S, hist, W) t hM hI hlast
  by_cases h : W.1 = 0 ∨ W.2.2 < 0
  · have h' : t1.1 = 0 ∨ t1.2.2.2 = 0 := by
      by_cases h0 : W.1 = 0
      · exact Or.inl (hC.2.2.2.2.1.trans h0)
      · have h3 : W.1 = 1 := hC.2.2.2.1.resolve_left h0
        obtain ⟨-, n, -, -, -, w5, -⟩ := hC.2.2.2.2.2 h3
        exact Or.inr (w5.mpr (h.resolve_left h0))
    refine ⟨1, 0, zE_s, _, _, Or.inr ⟨rfl, rfl⟩, fun _ => rfl, hC, hb.mono ?_ (by rintro E w ⟨rfl, rfl, -⟩; exact ⟨by decide, rfl, rfl⟩), hm.mono ?_ (fun _ _ h => h)⟩
    · rintro r w ⟨h8, h9, -⟩
      exact h'.elim (fun q => absurd q h8) (fun q => absurd q h9)
    · rintro r w ⟨d', ⟨-, rfl, h9⟩ | ⟨h8, h9, -⟩, rfl⟩
      · exact ⟨d', _, rfl, rfl, h9, fun h => absurd h (by decide)⟩
      · exact h.elim (fun q => absurd q (by rw [show W.1 = 1 from h8]; decide)) (fun q => absurd q h9)
  · have h0 : ¬ W.1 = 0 := fun q => h (Or.inl q)
    have hla : ¬ W.2.2 < 0 := fun q => h (Or.inr q)
    have h3 : W.1 = 1 := hC.2.2.2.1.resolve_left h0
    obtain ⟨w1, n, w2, w3, w4, w5, w6⟩ := hC.2.2.2.2.2 h3
    have hmc : ¬ t1.2.2.2 = 0 := fun q => hla (w5.mp q)
    obtain ⟨hn1, q, hq, hq1⟩ := w6 hmc
    have hL : (zp_row S t1.2.1).length ≤ 12 := by rw [zp_row_len hI1.1]; exact hI1.1.l12
    have e2 : t1.2.2.1 - 1 = nI (n - 1) := by
      rw [show t1.2.2.1 = nI n from w2]
      obtain ⟨n', rfl⟩ : ∃ n', n = n' + 1 := ⟨n - 1, by omega⟩
      rw [← nI_1]
      show nI n' + 1 - 1 = nI n'
      rw [Int32.add_sub_cancel]
    have e6 : zl_key (zp_row S t1.2.1) (zf_ix (t1.2.2.1 - 1) (zp_row S t1.2.1).length) = W.2.2 := by
      rw [e2, zl_key_at hL hq]
      exact hq1
    have ht1 : t1.1 = 1 := hC.2.2.2.2.1.trans h3
    refine ⟨0, nI (zp_take S W.2.2).1.length, zE_a, (zp_take S W.2.2, (S :: hist).take 8, (t1.1, t1.2.1, t1.2.2.1 - 1, 0)), _, Or.inl rfl, fun h => absurd rfl h, hC.cut h3 w1 w2 w3 w4 hn1 hq hq1 e2, hb.mono ?_ ?_, hm.mono ?_ (fun _ _ h => h)⟩
    · rintro r w ⟨-, -, S', hS', rfl, x', h9, rfl⟩
      have hS' : S' = zp_take S (zl_key (zp_row S t1.2.1) (zf_ix (t1.2.2.1 - 1) (zp_row S t1.2.1).length)) := hS'
      rw [e6] at hS'
      subst hS'
      exact ⟨rfl, x', rfl, rfl, h9⟩
    · rintro E w ⟨-, -, h9⟩
      exact h9.elim (fun q => absurd (show t1.1 = 0 from q) (by rw [ht1]; decide)) (fun q => absurd q hmc)
    · rintro r w ⟨d', ⟨h9, -⟩ | ⟨-, -, rfl, h9⟩, rfl⟩
      · exact absurd h9 h
      · exact ⟨d', _, rfl, rfl, h9, fun _ => rfl⟩
set_option maxHeartbeats 2000000 in
theorem zX_move {l : Launch} (hl : l.stackTraces = false) (D : va_G) (dA : Nat → ClassId) {x : zb_D} {T : zb_T} {d : zm_D} {U : zm_U} {t : Int32} (hR : zb_R T x) (hM : zm_R U t d) (hC : zL_C T U) (p1 : Int32) : ∃ (k a : Int32) (E : String) (T' : zb_T) (U' : zm_U), (k = 0 ∨ (k = 1 ∧ E = zE_i)) ∧ (¬ k = 0 → T' = T) ∧ zL_C T' U' ∧ zw_Sp l D dA yX4_move wsX4_move 7 1 6 [.ref 0, .int p1] (zb_W x) (zD_post k a T') (zD_px k E x) ∧ zw_Sp l D dA yX5_move wsX5_move 5 0 0 [.ref 0, .int p1] (zm_W 0 d) (zG_post k a U') (fun _ _ => False) := by
  obtain ⟨S, hist, t1⟩ := T
  obtain ⟨S2, hist2, W⟩ := U
  have h1 : S = S2 := hC.1
  subst h1
  have h2 : hist = hist2 := hC.2.1
  subst h2
  have hI : zm_I (S, hist, W) := hC.2.2.1
  have hI1 : zp_I S := hI.1
  have hb := zb_move hl D dA x (S, hist, t1) hR p1
  have hm := zm_move hl D dA d (S, hist, W) t hM hI p1
  by_cases h : ¬ p1 < 0 ∧ p1 < nI S.1.length - nI (zl_stay S.1 S.2.1 (-1))
  · refine ⟨0, (zl_key S.2.1 (zf_ix (nI (zl_stay S.1 S.2.1 (-1)) + p1) S.2.1.length)), zE_a, _, _, Or.inl rfl, fun h => absurd rfl h, hC, hb.mono (by rintro r w ⟨rfl, rfl, -⟩ <;> first | exact (⟨rfl, x, rfl, rfl, hR⟩)) (by rintro E w ⟨-, -, h9⟩; exact h9.elim (fun q => absurd q h.1) (fun q => absurd h.2 q)), hm.mono (by rintro r w ⟨d', ⟨h9, -⟩ | ⟨-, rfl, h9⟩, rfl⟩ <;> first | exact (absurd h h9) | exact (⟨d', _, rfl, rfl, h9, fun _ => rfl⟩)) (fun _ _ h => h)⟩
  · refine ⟨1, 0, zE_i, _, _, Or.inr ⟨rfl, rfl⟩, fun _ => rfl, hC, hb.mono (by rintro r w ⟨-, -, h9⟩; exact absurd h9 h) (by rintro E w ⟨rfl, rfl, -⟩; exact ⟨by decide, rfl, rfl⟩), hm.mono (by rintro r w ⟨d', ⟨-, rfl, h9⟩ | ⟨h9, -⟩, rfl⟩ <;> first | exact (⟨d', _, rfl, rfl, h9, fun h => absurd h (by decide)⟩) | exact (absurd h9 h)) (fun _ _ h => h)⟩
set_option maxHeartbeats 2000000 in
theorem zX_undo {l : Launch} (hl : l.stackTraces = false) (D : va_G) (dA : Nat → ClassId) {x : zb_D} {T : zb_T} {d : zm_D} {U : zm_U} {t : Int32} (hR : zb_R T x) (hM : zm_R U t d) (hC : zL_C T U) : ∃ (k a : Int32) (E : String) (T' : zb_T) (U' : zm_U), (k = 0 ∨ (k = 1 ∧ E = zE_n)) ∧ (¬ k = 0 → T' = T) ∧ zL_C T' U' ∧ zw_Sp l D dA yX4_undo wsX4_undo 7 1 6 [.ref 0] (zb_W x) (zD_post k a T') (zD_px k E x) ∧ zw_Sp l D dA yX5_undo wsX5_undo 5 0 0 [.ref 0] (zm_W 0 d) (zG_post k a U') (fun _ _ => False) := by
  obtain ⟨S, hist, t1⟩ := T
  obtain ⟨S2, hist2, W⟩ := U
  have h1 : S = S2 := hC.1
  subst h1
  have h2 : hist = hist2 := hC.2.1
  subst h2
  have hI : zm_I (S, hist, W) := hC.2.2.1
  have hI1 : zp_I S := hI.1
  have hb := zb_undo hl D dA x (S, hist, t1) hR
  have hm := zm_undo hl D dA d (S, hist, W) t hM hI
  cases hist with
  | nil => refine ⟨1, 0, zE_n, _, _, Or.inr ⟨rfl, rfl⟩, fun _ => rfl, hC, hb.mono (by rintro r w ⟨S', hist', h9, -⟩; cases h9) (by rintro E w ⟨rfl, rfl, -⟩; exact ⟨by decide, rfl, rfl⟩), hm.mono (by rintro r w ⟨d', ⟨-, rfl, h9⟩ | ⟨S', hist', h9, -⟩, rfl⟩ <;> first | exact (⟨d', _, rfl, rfl, h9, fun h => absurd h (by decide)⟩) | exact ((by cases h9))) (fun _ _ h => h)⟩
  | cons S0 hist0 => refine ⟨0, (nI hist0.length), zE_a, _, _, Or.inl rfl, fun h => absurd rfl h, hC.undo, hb.mono (by rintro r w ⟨S', hist', h8, rfl, x', h9, rfl⟩ <;> first | exact (by cases h8; exact ⟨rfl, x', rfl, rfl, h9⟩)) (by rintro E w ⟨-, -, h9⟩; cases h9), hm.mono (by rintro r w ⟨d', ⟨h9, -⟩ | ⟨S', hist', h8, rfl, h9⟩, rfl⟩ <;> first | exact (absurd h9 (List.cons_ne_nil _ _)) | exact (by cases h8; exact ⟨d', _, rfl, rfl, h9, fun _ => rfl⟩)) (fun _ _ h => h)⟩
set_option maxHeartbeats 2000000 in
theorem zX_getOr {l : Launch} (hl : l.stackTraces = false) (D : va_G) (dA : Nat → ClassId) {x : zb_D} {T : zb_T} {d : zm_D} {U : zm_U} {t : Int32} (hR : zb_R T x) (hM : zm_R U t d) (hC : zL_C T U) (p1 p2 : Int32) : ∃ (a : Int32) (T' : zb_T) (U' : zm_U), zL_C T' U' ∧ zw_Sp l D dA yX4_getOr wsX4_getOr 7 0 0 [.ref 0, .int p1, .int p2] (zb_W x) (zD_post 0 a T') (fun _ _ => False) ∧ zw_Sp l D dA yX5_getOr wsX5_getOr 5 0 0 [.ref 0, .int p1, .int p2] (zm_W 0 d) (zG_post 0 a U') (fun _ _ => False) := by
  obtain ⟨S, hist, t1⟩ := T
  obtain ⟨S2, hist2, W⟩ := U
  have h1 : S = S2 := hC.1
  subst h1
  have h2 : hist = hist2 := hC.2.1
  subst h2
  have hI : zm_I (S, hist, W) := hC.2.2.1
  have hI1 : zp_I S := hI.1
  have hb := zb_getOr hl D dA x (S, hist, t1) hR p1 p2
  have hm := zm_getOr hl D dA d (S, hist, W) t hM hI p1 p2
  by_cases hh : zl_find S.1 p1 < S.1.length
  · refine ⟨(zl_val S.1 (zl_fo S.1 p1)), _, _, hC.chg (hI1.touch p1), hb.mono (by rintro r w ⟨x', ⟨-, rfl, h9⟩ | ⟨h9, -⟩, rfl⟩ <;> first | exact (⟨rfl, x', rfl, rfl, h9⟩) | exact (absurd hh h9)) (fun _ _ h => h), hm.mono (by rintro r w ⟨d', ⟨h9, -⟩ | ⟨-, rfl, h9⟩, rfl⟩ <;> first | exact (absurd hh h9) | exact (⟨d', _, rfl, rfl, h9, fun _ => rfl⟩)) (fun _ _ h => h)⟩
  · refine ⟨p2, _, _, hC, hb.mono (by rintro r w ⟨x', ⟨h9, -⟩ | ⟨-, rfl, h9⟩, rfl⟩ <;> first | exact (absurd h9 hh) | exact (⟨rfl, x', rfl, rfl, h9⟩)) (fun _ _ h => h), hm.mono (by rintro r w ⟨d', ⟨-, rfl, h9⟩ | ⟨h9, -⟩, rfl⟩ <;> first | exact (⟨d', _, rfl, rfl, h9, fun _ => rfl⟩) | exact (absurd h9 hh)) (fun _ _ h => h)⟩
set_option maxHeartbeats 2000000 in
theorem zX_replace {l : Launch} (hl : l.stackTraces = false) (D : va_G) (dA : Nat → ClassId) {x : zb_D} {T : zb_T} {d : zm_D} {U : zm_U} {t : Int32} (hR : zb_R T x) (hM : zm_R U t d) (hC : zL_C T U) (p1 p2 : Int32) : ∃ (a : Int32) (T' : zb_T) (U' : zm_U), zL_C T' U' ∧ zw_Sp l D dA yX4_replace wsX4_replace 7 0 0 [.ref 0, .int p1, .int p2] (zb_W x) (zD_post 0 a T') (fun _ _ => False) ∧ zw_Sp l D dA yX5_replace wsX5_replace 5 0 0 [.ref 0, .int p1, .int p2] (zm_W 0 d) (zG_post 0 a U') (fun _ _ => False) := by
  obtain ⟨S, hist, t1⟩ := T
  obtain ⟨S2, hist2, W⟩ := U
  have h1 : S = S2 := hC.1
  subst h1
  have h2 : hist = hist2 := hC.2.1
  subst h2
  have hI : zm_I (S, hist, W) := hC.2.2.1
  have hI1 : zp_I S := hI.1
  have hb := zb_replace hl D dA x (S, hist, t1) hR p1 p2
  have hm := zm_replace hl D dA d (S, hist, W) t hM hI p1 p2
  by_cases hh : zl_find S.1 p1 < S.1.length
  · refine ⟨1, _, _, hC.chg ((hI1.give p1 p2).touch p1), hb.mono (by rintro r w ⟨x', ⟨-, rfl, h9⟩ | ⟨h9, -⟩, rfl⟩ <;> first | exact (⟨rfl, x', rfl, rfl, h9⟩) | exact (absurd hh h9)) (fun _ _ h => h), hm.mono (by rintro r w ⟨d', ⟨h9, -⟩ | ⟨-, rfl, h9⟩, rfl⟩ <;> first | exact (absurd hh h9) | exact (⟨d', _, rfl, rfl, h9, fun _ => rfl⟩)) (fun _ _ h => h)⟩
  · refine ⟨0, _, _, hC, hb.mono (by rintro r w ⟨x', ⟨h9, -⟩ | ⟨-, rfl, h9⟩, rfl⟩ <;> first | exact (absurd h9 hh) | exact (⟨rfl, x', rfl, rfl, h9⟩)) (fun _ _ h => h), hm.mono (by rintro r w ⟨d', ⟨-, rfl, h9⟩ | ⟨h9, -⟩, rfl⟩ <;> first | exact (⟨d', _, rfl, rfl, h9, fun _ => rfl⟩) | exact (absurd h9 hh)) (fun _ _ h => h)⟩
set_option maxHeartbeats 2000000 in
theorem zX_replaceIf {l : Launch} (hl : l.stackTraces = false) (D : va_G) (dA : Nat → ClassId) {x : zb_D} {T : zb_T} {d : zm_D} {U : zm_U} {t : Int32} (hR : zb_R T x) (hM : zm_R U t d) (hC : zL_C T U) (p1 p2 p3 : Int32) : ∃ (a : Int32) (T' : zb_T) (U' : zm_U), zL_C T' U' ∧ zw_Sp l D dA yX4_replaceIf wsX4_replaceIf 7 0 0 [.ref 0, .int p1, .int p2, .int p3] (zb_W x) (zD_post 0 a T') (fun _ _ => False) ∧ zw_Sp l D dA yX5_replaceIf wsX5_replaceIf 5 0 0 [.ref 0, .int p1, .int p2, .int p3] (zm_W 0 d) (zG_post 0 a U') (fun _ _ => False) := by
  obtain ⟨S, hist, t1⟩ := T
  obtain ⟨S2, hist2, W⟩ := U
  have h1 : S = S2 := hC.1
  subst h1
  have h2 : hist = hist2 := hC.2.1
  subst h2
  have hI : zm_I (S, hist, W) := hC.2.2.1
  have hI1 : zp_I S := hI.1
  have hb := zb_replaceIf hl D dA x (S, hist, t1) hR p1 p2 p3
  have hm := zm_replaceIf hl D dA d (S, hist, W) t hM hI p1 p2 p3
  by_cases hh : zl_find S.1 p1 < S.1.length ∧ zl_val S.1 (zl_fo S.1 p1) = p2
  · refine ⟨1, _, _, hC.chg ((hI1.give p1 p3).touch p1), hb.mono (by rintro r w ⟨x', ⟨-, rfl, h9⟩ | ⟨h9, -⟩, rfl⟩ <;> first | exact (⟨rfl, x', rfl, rfl, h9⟩) | exact (absurd hh h9)) (fun _ _ h => h), hm.mono (by rintro r w ⟨d', ⟨h9, -⟩ | ⟨-, rfl, h9⟩, rfl⟩ <;> first | exact (absurd hh h9) | exact (⟨d', _, rfl, rfl, h9, fun _ => rfl⟩)) (fun _ _ h => h)⟩
  · refine ⟨0, _, _, hC, hb.mono (by rintro r w ⟨x', ⟨h9, -⟩ | ⟨-, rfl, h9⟩, rfl⟩ <;> first | exact (absurd h9 hh) | exact (⟨rfl, x', rfl, rfl, h9⟩)) (fun _ _ h => h), hm.mono (by rintro r w ⟨d', ⟨-, rfl, h9⟩ | ⟨h9, -⟩, rfl⟩ <;> first | exact (⟨d', _, rfl, rfl, h9, fun _ => rfl⟩) | exact (absurd h9 hh)) (fun _ _ h => h)⟩
set_option maxHeartbeats 2000000 in
theorem zX_has {l : Launch} (hl : l.stackTraces = false) (D : va_G) (dA : Nat → ClassId) {x : zb_D} {T : zb_T} {d : zm_D} {U : zm_U} {t : Int32} (hR : zb_R T x) (hM : zm_R U t d) (hC : zL_C T U) (p1 : Int32) : ∃ (a : Int32) (T' : zb_T) (U' : zm_U), zL_C T' U' ∧ zw_Sp l D dA yX4_has wsX4_has 7 0 0 [.ref 0, .int p1] (zb_W x) (zD_post 0 a T') (fun _ _ => False) ∧ zw_Sp l D dA yX5_has wsX5_has 5 0 0 [.ref 0, .int p1] (zm_W 0 d) (zG_post 0 a U') (fun _ _ => False) := by
  obtain ⟨S, hist, t1⟩ := T
  obtain ⟨S2, hist2, W⟩ := U
  have h1 : S = S2 := hC.1
  subst h1
  have h2 : hist = hist2 := hC.2.1
  subst h2
  have hI : zm_I (S, hist, W) := hC.2.2.1
  have hI1 : zp_I S := hI.1
  have hb := zb_hasM hl D dA x (S, hist, t1) hR p1
  have hm := zm_hasM hl D dA d (S, hist, W) t hM hI p1
  refine ⟨(zf_b (decide (zl_find S.1 p1 < S.1.length))), _, _, hC, hb.mono (by rintro r w ⟨rfl, rfl⟩ <;> first | exact (⟨rfl, x, rfl, rfl, hR⟩)) (fun _ _ h => h), hm.mono (by rintro r w ⟨d', ⟨rfl, h9⟩, rfl⟩ <;> first | exact (⟨d', _, rfl, rfl, h9, fun _ => rfl⟩)) (fun _ _ h => h)⟩
set_option maxHeartbeats 2000000 in
theorem zX_size {l : Launch} (hl : l.stackTraces = false) (D : va_G) (dA : Nat → ClassId) {x : zb_D} {T : zb_T} {d : zm_D} {U : zm_U} {t : Int32} (hR : zb_R T x) (hM : zm_R U t d) (hC : zL_C T U) : ∃ (a : Int32) (T' : zb_T) (U' : zm_U), zL_C T' U' ∧ zw_Sp l D dA yX4_size wsX4_size 7 0 0 [.ref 0] (zb_W x) (zD_post 0 a T') (fun _ _ => False) ∧ zw_Sp l D dA yX5_size wsX5_size 5 0 0 [.ref 0] (zm_W 0 d) (zG_post 0 a U') (fun _ _ => False) := by
  obtain ⟨S, hist, t1⟩ := T
  obtain ⟨S2, hist2, W⟩ := U
  have h1 : S = S2 := hC.1
  subst h1
  have h2 : hist = hist2 := hC.2.1
  subst h2
  have hI : zm_I (S, hist, W) := hC.2.2.1
  have hI1 : zp_I S := hI.1
  have hb := zb_size hl D dA x (S, hist, t1) hR
  have hm := zm_size hl D dA d (S, hist, W) t hM
  refine ⟨(nI S.1.length), _, _, hC, hb.mono (by rintro r w ⟨rfl, rfl⟩ <;> first | exact (⟨rfl, x, rfl, rfl, hR⟩)) (fun _ _ h => h), hm.mono (by rintro r w ⟨d', ⟨rfl, h9⟩, rfl⟩ <;> first | exact (⟨d', _, rfl, rfl, h9, fun _ => rfl⟩)) (fun _ _ h => h)⟩
set_option maxHeartbeats 2000000 in
theorem zX_moves {l : Launch} (hl : l.stackTraces = false) (D : va_G) (dA : Nat → ClassId) {x : zb_D} {T : zb_T} {d : zm_D} {U : zm_U} {t : Int32} (hR : zb_R T x) (hM : zm_R U t d) (hC : zL_C T U) : ∃ (a : Int32) (T' : zb_T) (U' : zm_U), zL_C T' U' ∧ zw_Sp l D dA yX4_moves wsX4_moves 7 0 0 [.ref 0] (zb_W x) (zD_post 0 a T') (fun _ _ => False) ∧ zw_Sp l D dA yX5_moves wsX5_moves 5 0 0 [.ref 0] (zm_W 0 d) (zG_post 0 a U') (fun _ _ => False) := by
  obtain ⟨S, hist, t1⟩ := T
  obtain ⟨S2, hist2, W⟩ := U
  have h1 : S = S2 := hC.1
  subst h1
  have h2 : hist = hist2 := hC.2.1
  subst h2
  have hI : zm_I (S, hist, W) := hC.2.2.1
  have hI1 : zp_I S := hI.1
  have hb := zb_moves hl D dA x (S, hist, t1) hR
  have hm := zm_moves hl D dA d (S, hist, W) t hM hI
  refine ⟨(nI S.1.length - nI (zl_stay S.1 S.2.1 (-1))), _, _, hC, hb.mono (by rintro r w ⟨rfl, rfl⟩ <;> first | exact (⟨rfl, x, rfl, rfl, hR⟩)) (fun _ _ h => h), hm.mono (by rintro r w ⟨d', ⟨rfl, h9⟩, rfl⟩ <;> first | exact (⟨d', _, rfl, rfl, h9, fun _ => rfl⟩)) (fun _ _ h => h)⟩
set_option maxHeartbeats 2000000 in
theorem zX_crossings {l : Launch} (hl : l.stackTraces = false) (D : va_G) (dA : Nat → ClassId) {x : zb_D} {T : zb_T} {d : zm_D} {U : zm_U} {t : Int32} (hR : zb_R T x) (hM : zm_R U t d) (hC : zL_C T U) : ∃ (a : Int32) (T' : zb_T) (U' : zm_U), zL_C T' U' ∧ zw_Sp l D dA yX4_crossings wsX4_crossings 7 0 0 [.ref 0] (zb_W x) (zD_post 0 a T') (fun _ _ => False) ∧ zw_Sp l D dA yX5_crossings wsX5_crossings 5 0 0 [.ref 0] (zm_W 0 d) (zG_post 0 a U') (fun _ _ => False) := by
  obtain ⟨S, hist, t1⟩ := T
  obtain ⟨S2, hist2, W⟩ := U
  have h1 : S = S2 := hC.1
  subst h1
  have h2 : hist = hist2 := hC.2.1
  subst h2
  have hI : zm_I (S, hist, W) := hC.2.2.1
  have hI1 : zp_I S := hI.1
  have hb := zb_crossings hl D dA x (S, hist, t1) hR
  have hm := zm_crossings hl D dA d (S, hist, W) t hM hI
  refine ⟨(nI (zl_cr S.1 S.2.1 S.2.1.length)), _, _, hC, hb.mono (by rintro r w ⟨rfl, rfl⟩ <;> first | exact (⟨rfl, x, rfl, rfl, hR⟩)) (fun _ _ h => h), hm.mono (by rintro r w ⟨d', ⟨rfl, h9⟩, rfl⟩ <;> first | exact (⟨d', _, rfl, rfl, h9, fun _ => rfl⟩)) (fun _ _ h => h)⟩
set_option maxHeartbeats 2000000 in
theorem zX_isTrue {l : Launch} (hl : l.stackTraces = false) (D : va_G) (dA : Nat → ClassId) {x : zb_D} {T : zb_T} {d : zm_D} {U : zm_U} {t : Int32} (hR : zb_R T x) (hM : zm_R U t d) (hC : zL_C T U) : ∃ (a : Int32) (T' : zb_T) (U' : zm_U), zL_C T' U' ∧ zw_Sp l D dA yX4_isTrue wsX4_isTrue 7 0 0 [.ref 0] (zb_W x) (zD_post 0 a T') (fun _ _ => False) ∧ zw_Sp l D dA yX5_isTrue wsX5_isTrue 5 0 0 [.ref 0] (zm_W 0 d) (zG_post 0 a U') (fun _ _ => False) := by
  obtain ⟨S, hist, t1⟩ := T
  obtain ⟨S2, hist2, W⟩ := U
  have h1 : S = S2 := hC.1
  subst h1
  have h2 : hist = hist2 := hC.2.1
  subst h2
  have hI : zm_I (S, hist, W) := hC.2.2.1
  have hI1 : zp_I S := hI.1
  have hb := zb_isTrue hl D dA x (S, hist, t1) hR hI1
  have hm := zm_isTrue hl D dA d (S, hist, W) t hM
  refine ⟨1, _, _, hC, hb.mono (by rintro r w ⟨rfl, x', h9, rfl⟩ <;> first | exact (⟨rfl, x', rfl, rfl, h9⟩)) (fun _ _ h => h), hm.mono (by rintro r w ⟨d', ⟨rfl, h9⟩, rfl⟩ <;> first | exact (⟨d', _, rfl, rfl, h9, fun _ => rfl⟩)) (fun _ _ h => h)⟩
