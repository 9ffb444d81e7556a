/-! the law: more of its cases -/
set_option maxHeartbeats 8000000 in
theorem zL_c_has {p : Program} {l : Launch} {e : Env} {s : State} {m : MethodId} {args : Array Value} {below : List Frame} {meth : Method} {c : Code} {Q : State → Prop} {ret : Option FieldType} {nm : String} {tb : List ExceptionTableEntry} {D : va_G} {dA : Nat → ClassId} {A : Nat → Prop} {ad0 : Nat → Nat} {cells slots : Nat} (hl : l.stackTraces = false) (B : zw_B p l s m args meth c cL_law 7 ret RL nm wsL_law tb D dA A) {n9 : Nat} {xs : Nat → Int32} (hX : zL_X s A ad0 n9 xs) {x : zb_D} {T : zb_T} {d : zm_D} {U : zm_U} {t : Int32} {f : Nat → Int64} (hR : zb_R T x) (hM : zm_R U t d) (hC : zL_C T U) (j : Nat) (hj : 4 * j + 4 ≤ n9) {o5 o6 : Option Value} (hc : cells + 2 ≤ room_1.cells ∧ slots + 12 ≤ room_1.slots)
    (kk : zL_K p l e s m args below meth c Q D dA A ad0 cells slots j) : zw_k p l e room_1 s m args below meth c Q D dA A ad0 0 7 cells slots (zL_W x d f) 534 [some (.ref 1000), some (.ref 0), some (.ref 70), some (.ref 105), some (.int (nI (4 * j))), o5, o6] [] := by
  obtain ⟨a, T', U', hC', hb, hm⟩ := zX_has hl D dA hR hM hC (xs (4 * j + 1))
  refine zs_aload_n B dL_law_534 (i := 1) rfl rfl ?_
  refine zs_aload_n B dL_law_535 (i := 0) rfl rfl ?_
  refine zs_iload B dL_law_536 (i := 4) rfl ?_
  refine zs_iconst (v := 1) B dL_law_538 (by decide) ?_
  refine zs_iadd B dL_law_539 ?_
  refine zs_sal B hX (j := 4 * j + 1) (nI_add (4 * j) 1) (by omega) dL_law_540 ?_
  refine zs_callV (n := 1) (wlc := zb_W x) (as := [.int (xs (4 * j + 1))]) (rest := []) (b := 0) zL_is B hb gL_law_X4_has rfl ⟨rfl, by decide, by decide, by decide +kernel⟩ rfl (zL_sel x (zm_W 70 d ++ [zL_o f])) zL_nd rfl rfl rfl ⟨(by exact Nat.le_of_ble_eq_true rfl), (by exact Nat.le_of_ble_eq_true rfl)⟩ (by exact Nat.le_of_ble_eq_true rfl) ⟨by omega, by omega⟩ dL_law_541 zD_len (fun _ _ h => h.elim) (fun _ _ h => h.elim) ?_
  rintro r w ⟨-, x', rfl, rfl, hR'⟩
  refine zs_eq (wl' := zL_W x' d f) (st' := [.int a]) (zL_bk x x' _) rfl rfl rfl ?_
  refine zs_aload_n B dL_law_544 (i := 2) rfl rfl ?_
  refine zs_aload_n B dL_law_545 (i := 0) rfl rfl ?_
  refine zs_iload B dL_law_546 (i := 4) rfl ?_
  refine zs_iconst (v := 1) B dL_law_548 (by decide) ?_
  refine zs_iadd B dL_law_549 ?_
  refine zs_sal B hX (j := 4 * j + 1) (nI_add (4 * j) 1) (by omega) dL_law_550 ?_
  refine zs_callV (n := 1) (wlc := zm_W 0 d) (as := [.int (xs (4 * j + 1))]) (rest := [.int a]) (b := 0) zm_is B hm gL_law_X5_has rfl ⟨rfl, by decide, by decide, by decide +kernel⟩ rfl (zL_selM x' d f) zm_nd rfl rfl rfl ⟨(by exact Nat.le_of_ble_eq_true rfl), (by exact Nat.le_of_ble_eq_true rfl)⟩ (by exact Nat.le_of_ble_eq_true rfl) ⟨by omega, by omega⟩ dL_law_551 zG_len (fun _ _ h => h.elim) (fun _ _ h => h.elim) ?_
  rintro r w ⟨d', v, rfl, rfl, hM', hv⟩
  refine zs_eq (wl' := zL_W x' d' f) (st' := [.int v, .int a]) (zL_bkM x' d d' f) rfl rfl rfl ?_
  refine zs_icmp_eq (tgt := 1403) B dL_law_554 (by decide) (fun _ => ?_) (fun h => absurd (hv rfl).symm h)
  refine zs_widen (k := cells + 2) (n := slots + 12) (by omega) (by omega) ?_
  exact kk _ _ _ _ _ _ _ _ hC' hR' hM'
set_option maxHeartbeats 8000000 in
theorem zL_c_remove {p : Program} {l : Launch} {e : Env} {s : State} {m : MethodId} {args : Array Value} {below : List Frame} {meth : Method} {c : Code} {Q : State → Prop} {ret : Option FieldType} {nm : String} {tb : List ExceptionTableEntry} {D : va_G} {dA : Nat → ClassId} {A : Nat → Prop} {ad0 : Nat → Nat} {cells slots : Nat} (hl : l.stackTraces = false) (B : zw_B p l s m args meth c cL_law 7 ret RL nm wsL_law tb D dA A) {n9 : Nat} {xs : Nat → Int32} (hX : zL_X s A ad0 n9 xs) {x : zb_D} {T : zb_T} {d : zm_D} {U : zm_U} {t : Int32} {f : Nat → Int64} (hR : zb_R T x) (hM : zm_R U t d) (hC : zL_C T U) (j : Nat) (hj : 4 * j + 4 ≤ n9) {o5 o6 : Option Value} (hc : cells + 2 ≤ room_1.cells ∧ slots + 12 ≤ room_1.slots)
    (kk : zL_K p l e s m args below meth c Q D dA A ad0 cells slots j) : zw_k p l e room_1 s m args below meth c Q D dA A ad0 0 7 cells slots (zL_W x d f) 559 [some (.ref 1000), some (.ref 0), some (.ref 70), some (.ref 105), some (.int (nI (4 * j))), o5, o6] [] := by
  obtain ⟨k, a, E, T', U', hk, hT, hC', hb, hm⟩ := zX_remove hl D dA hR hM hC (xs (4 * j + 1))
  refine zs_aload_n B dL_law_559 (i := 1) rfl rfl ?_
  refine zs_aload_n B dL_law_560 (i := 0) rfl rfl ?_
  refine zs_iload B dL_law_561 (i := 4) rfl ?_
  refine zs_iconst (v := 1) B dL_law_563 (by decide) ?_
  refine zs_iadd B dL_law_564 ?_
  refine zs_sal B hX (j := 4 * j + 1) (nI_add (4 * j) 1) (by omega) dL_law_565 ?_
  refine zs_aload_n B dL_law_566 (i := 3) rfl rfl ?_
  refine zs_callSW (n := 3) (wlc := zb_W x ++ [zL_o f]) (as := [.ref 0, .int (xs (4 * j + 1)), .ref 70]) (rest := []) zL_isB B (hL_remove hl D dA hR (xs (4 * j + 1)) f k a E T' hk hT hb) gL_law_L_remove rfl ⟨by decide, by decide, by decide +kernel⟩ rfl (zL_selB x d f) zL_ndB rfl ⟨(by exact Nat.le_of_ble_eq_true rfl), (by exact Nat.le_of_ble_eq_true rfl)⟩ (by exact Nat.le_of_ble_eq_true rfl) ⟨by omega, by omega⟩ dL_law_567 zH_len (fun _ _ h => h.elim) (fun _ _ h => h.elim) ?_
  rintro r w ⟨x', f', rfl, rfl, hR', hf'⟩
  refine zs_eq (wl' := zL_W x' d f') (st' := [.int k]) (zL_bkB x x' d f f') rfl rfl rfl ?_
  refine zs_istore B dL_law_570 (i := 5) (by decide) rfl ?_
  refine zs_aload_n B dL_law_572 (i := 2) rfl rfl ?_
  refine zs_aload_n B dL_law_573 (i := 0) rfl rfl ?_
  refine zs_iload B dL_law_574 (i := 4) rfl ?_
  refine zs_iconst (v := 1) B dL_law_576 (by decide) ?_
  refine zs_iadd B dL_law_577 ?_
  refine zs_sal B hX (j := 4 * j + 1) (nI_add (4 * j) 1) (by omega) dL_law_578 ?_
  refine zs_callV (n := 1) (wlc := zm_W 0 d) (as := [.int (xs (4 * j + 1))]) (rest := []) (b := 0) zm_is B hm gL_law_X5_remove rfl ⟨rfl, by decide, by decide, by decide +kernel⟩ rfl (zL_selM x' d f') zm_nd rfl rfl rfl ⟨(by exact Nat.le_of_ble_eq_true rfl), (by exact Nat.le_of_ble_eq_true rfl)⟩ (by exact Nat.le_of_ble_eq_true rfl) ⟨by omega, by omega⟩ dL_law_579 zG_len (fun _ _ h => h.elim) (fun _ _ h => h.elim) ?_
  rintro r w ⟨d', v, rfl, rfl, hM', hv⟩
  refine zs_eq (wl' := zL_W x' d' f') (st' := [.int v]) (zL_bkM x' d d' f') rfl rfl rfl ?_
  refine zs_istore B dL_law_582 (i := 6) (by decide) rfl ?_
  refine zs_aload_n B dL_law_584 (i := 2) rfl rfl ?_
  refine zs_callV (n := 0) (wlc := zm_W 0 d') (as := []) (rest := []) (b := 0) zm_is B (zm_thrown hl D dA d' U' k hM') gL_law_X5_thrown rfl ⟨rfl, by decide, by decide, by decide +kernel⟩ rfl (zL_selM x' d' f') zm_nd rfl rfl rfl ⟨(by exact Nat.le_of_ble_eq_true rfl), (by exact Nat.le_of_ble_eq_true rfl)⟩ (by exact Nat.le_of_ble_eq_true rfl) ⟨by omega, by omega⟩ dL_law_585 (by rintro v w ⟨rfl, rfl⟩; rfl) (fun _ _ h => h.elim) (fun _ _ h => h.elim) ?_
  rintro r w ⟨rfl, rfl⟩
  refine zs_eq (wl' := zL_W x' d' f') (st' := [.int k]) (zL_bkM x' d' d' f') rfl rfl rfl ?_
  refine zs_iload B dL_law_588 (i := 5) rfl ?_
  refine zs_icmp_eq (tgt := 595) B dL_law_590 (by decide) (fun _ => ?_) (fun h => absurd rfl h)
  refine zs_iload B dL_law_595 (i := 5) rfl ?_
  refine zs_if_ne (tgt := 612) B dL_law_597 (by decide) (fun _ => ?_) (fun hk0 => ?_)
  · refine zs_goto (tgt := 1403) B dL_law_612 (by decide) ?_
    refine zs_widen (k := cells + 2) (n := slots + 12) (by omega) (by omega) ?_
    exact kk _ _ _ _ _ _ _ _ hC' hR' hM'
  · refine zs_aload_n B dL_law_600 (i := 3) rfl rfl ?_
    refine zs_iconst (v := 0) B dL_law_601 (by decide) ?_
    refine zs_lal (f := f') (n := 1) B 0 (zL_at _ _ _) (by decide) (by decide) nI_0.symm dL_law_602 ?_
    refine zs_iload B dL_law_603 (i := 6) rfl ?_
    refine zs_i2l B dL_law_605 ?_
    refine zs_lcmp B dL_law_606 ?_
    refine zs_if_eq (tgt := 612) B dL_law_607 (by decide) (fun _ => ?_) (fun h => absurd (zL_cmp ((hf' hk0).trans (by rw [hv hk0]))) h)
    refine zs_goto (tgt := 1403) B dL_law_612 (by decide) ?_
    refine zs_widen (k := cells + 2) (n := slots + 12) (by omega) (by omega) ?_
    exact kk _ _ _ _ _ _ _ _ hC' hR' hM'
set_option maxHeartbeats 8000000 in
theorem zL_c_size {p : Program} {l : Launch} {e : Env} {s : State} {m : MethodId} {args : Array Value} {below : List Frame} {meth : Method} {c : Code} {Q : State → Prop} {ret : Option FieldType} {nm : String} {tb : List ExceptionTableEntry} {D : va_G} {dA : Nat → ClassId} {A : Nat → Prop} {ad0 : Nat → Nat} {cells slots : Nat} (hl : l.stackTraces = false) (B : zw_B p l s m args meth c cL_law 7 ret RL nm wsL_law tb D dA A) {n9 : Nat} {xs : Nat → Int32} (hX : zL_X s A ad0 n9 xs) {x : zb_D} {T : zb_T} {d : zm_D} {U : zm_U} {t : Int32} {f : Nat → Int64} (hR : zb_R T x) (hM : zm_R U t d) (hC : zL_C T U) (j : Nat) (hj : 4 * j + 4 ≤ n9) {o5 o6 : Option Value} (hc : cells + 2 ≤ room_1.cells ∧ slots + 12 ≤ room_1.slots)
    (kk : zL_K p l e s m args below meth c Q D dA A ad0 cells slots j) : zw_k p l e room_1 s m args below meth c Q D dA A ad0 0 7 cells slots (zL_W x d f) 615 [some (.ref 1000), some (.ref 0), some (.ref 70), some (.ref 105), some (.int (nI (4 * j))), o5, o6] [] := by
  obtain ⟨a, T', U', hC', hb, hm⟩ := zX_size hl D dA hR hM hC
  refine zs_aload_n B dL_law_615 (i := 1) rfl rfl ?_
  refine zs_callV (n := 0) (wlc := zb_W x) (as := []) (rest := []) (b := 0) zL_is B hb gL_law_X4_size rfl ⟨rfl, by decide, by decide, by decide +kernel⟩ rfl (zL_sel x (zm_W 70 d ++ [zL_o f])) zL_nd rfl rfl rfl ⟨(by exact Nat.le_of_ble_eq_true rfl), (by exact Nat.le_of_ble_eq_true rfl)⟩ (by exact Nat.le_of_ble_eq_true rfl) ⟨by omega, by omega⟩ dL_law_616 zD_len (fun _ _ h => h.elim) (fun _ _ h => h.elim) ?_
  rintro r w ⟨-, x', rfl, rfl, hR'⟩
  refine zs_eq (wl' := zL_W x' d f) (st' := [.int a]) (zL_bk x x' _) rfl rfl rfl ?_
  refine zs_aload_n B dL_law_619 (i := 2) rfl rfl ?_
  refine zs_callV (n := 0) (wlc := zm_W 0 d) (as := []) (rest := [.int a]) (b := 0) zm_is B hm gL_law_X5_size rfl ⟨rfl, by decide, by decide, by decide +kernel⟩ rfl (zL_selM x' d f) zm_nd rfl rfl rfl ⟨(by exact Nat.le_of_ble_eq_true rfl), (by exact Nat.le_of_ble_eq_true rfl)⟩ (by exact Nat.le_of_ble_eq_true rfl) ⟨by omega, by omega⟩ dL_law_620 zG_len (fun _ _ h => h.elim) (fun _ _ h => h.elim) ?_
  rintro r w ⟨d', v, rfl, rfl, hM', hv⟩
  refine zs_eq (wl' := zL_W x' d' f) (st' := [.int v, .int a]) (zL_bkM x' d d' f) rfl rfl rfl ?_
  refine zs_icmp_eq (tgt := 1403) B dL_law_623 (by decide) (fun _ => ?_) (fun h => absurd (hv rfl).symm h)
  refine zs_widen (k := cells + 2) (n := slots + 12) (by omega) (by omega) ?_
  exact kk _ _ _ _ _ _ _ _ hC' hR' hM'
set_option maxHeartbeats 8000000 in
theorem zL_c_limit {p : Program} {l : Launch} {e : Env} {s : State} {m : MethodId} {args : Array Value} {below : List Frame} {meth : Method} {c : Code} {Q : State → Prop} {ret : Option FieldType} {nm : String} {tb : List ExceptionTableEntry} {D : va_G} {dA : Nat → ClassId} {A : Nat → Prop} {ad0 : Nat → Nat} {cells slots : Nat} (hl : l.stackTraces = false) (B : zw_B p l s m args meth c cL_law 7 ret RL nm wsL_law tb D dA A) {n9 : Nat} {xs : Nat → Int32} (hX : zL_X s A ad0 n9 xs) {x : zb_D} {T : zb_T} {d : zm_D} {U : zm_U} {t : Int32} {f : Nat → Int64} (hR : zb_R T x) (hM : zm_R U t d) (hC : zL_C T U) (j : Nat) (hj : 4 * j + 4 ≤ n9) {o5 o6 : Option Value} (hc : cells + 2 ≤ room_1.cells ∧ slots + 12 ≤ room_1.slots)
    (kk : zL_K p l e s m args below meth c Q D dA A ad0 cells slots j) : zw_k p l e room_1 s m args below meth c Q D dA A ad0 0 7 cells slots (zL_W x d f) 628 [some (.ref 1000), some (.ref 0), some (.ref 70), some (.ref 105), some (.int (nI (4 * j))), o5, o6] [] := by
  obtain ⟨k, a, E, T', U', hk, hT, hC', hb, hm⟩ := zX_limit hl D dA hR hM hC (xs (4 * j + 1))
  refine zs_aload_n B dL_law_628 (i := 1) rfl rfl ?_
  refine zs_aload_n B dL_law_629 (i := 0) rfl rfl ?_
  refine zs_iload B dL_law_630 (i := 4) rfl ?_
  refine zs_iconst (v := 1) B dL_law_632 (by decide) ?_
  refine zs_iadd B dL_law_633 ?_
  refine zs_sal B hX (j := 4 * j + 1) (nI_add (4 * j) 1) (by omega) dL_law_634 ?_
  refine zs_aload_n B dL_law_635 (i := 3) rfl rfl ?_
  refine zs_callSW (n := 3) (wlc := zb_W x ++ [zL_o f]) (as := [.ref 0, .int (xs (4 * j + 1)), .ref 70]) (rest := []) zL_isB B (hL_limit hl D dA hR (xs (4 * j + 1)) f k a E T' hk hT hb) gL_law_L_limit rfl ⟨by decide, by decide, by decide +kernel⟩ rfl (zL_selB x d f) zL_ndB rfl ⟨(by exact Nat.le_of_ble_eq_true rfl), (by exact Nat.le_of_ble_eq_true rfl)⟩ (by exact Nat.le_of_ble_eq_true rfl) ⟨by omega, by omega⟩ dL_law_636 zH_len (fun _ _ h => h.elim) (fun _ _ h => h.elim) ?_
  rintro r w ⟨x', f', rfl, rfl, hR', hf'⟩
  refine zs_eq (wl' := zL_W x' d f') (st' := [.int k]) (zL_bkB x x' d f f') rfl rfl rfl ?_
  refine zs_istore B dL_law_639 (i := 5) (by decide) rfl ?_
  refine zs_aload_n B dL_law_641 (i := 2) rfl rfl ?_
  refine zs_aload_n B dL_law_642 (i := 0) rfl rfl ?_
  refine zs_iload B dL_law_643 (i := 4) rfl ?_
  refine zs_iconst (v := 1) B dL_law_645 (by decide) ?_
  refine zs_iadd B dL_law_646 ?_
  refine zs_sal B hX (j := 4 * j + 1) (nI_add (4 * j) 1) (by omega) dL_law_647 ?_
  refine zs_callV (n := 1) (wlc := zm_W 0 d) (as := [.int (xs (4 * j + 1))]) (rest := []) (b := 0) zm_is B hm gL_law_X5_limit rfl ⟨rfl, by decide, by decide, by decide +kernel⟩ rfl (zL_selM x' d f') zm_nd rfl rfl rfl ⟨(by exact Nat.le_of_ble_eq_true rfl), (by exact Nat.le_of_ble_eq_true rfl)⟩ (by exact Nat.le_of_ble_eq_true rfl) ⟨by omega, by omega⟩ dL_law_648 zG_len (fun _ _ h => h.elim) (fun _ _ h => h.elim) ?_
  rintro r w ⟨d', v, rfl, rfl, hM', hv⟩
  refine zs_eq (wl' := zL_W x' d' f') (st' := [.int v]) (zL_bkM x' d d' f') rfl rfl rfl ?_
  refine zs_istore B dL_law_651 (i := 6) (by decide) rfl ?_
  refine zs_aload_n B dL_law_653 (i := 2) rfl rfl ?_
  refine zs_callV (n := 0) (wlc := zm_W 0 d') (as := []) (rest := []) (b := 0) zm_is B (zm_thrown hl D dA d' U' k hM') gL_law_X5_thrown rfl ⟨rfl, by decide, by decide, by decide +kernel⟩ rfl (zL_selM x' d' f') zm_nd rfl rfl rfl ⟨(by exact Nat.le_of_ble_eq_true rfl), (by exact Nat.le_of_ble_eq_true rfl)⟩ (by exact Nat.le_of_ble_eq_true rfl) ⟨by omega, by omega⟩ dL_law_654 (by rintro v w ⟨rfl, rfl⟩; rfl) (fun _ _ h => h.elim) (fun _ _ h => h.elim) ?_
  rintro r w ⟨rfl, rfl⟩
  refine zs_eq (wl' := zL_W x' d' f') (st' := [.int k]) (zL_bkM x' d' d' f') rfl rfl rfl ?_
  refine zs_iload B dL_law_657 (i := 5) rfl ?_
  refine zs_icmp_eq (tgt := 664) B dL_law_659 (by decide) (fun _ => ?_) (fun h => absurd rfl h)
  refine zs_iload B dL_law_664 (i := 5) rfl ?_
  refine zs_if_ne (tgt := 681) B dL_law_666 (by decide) (fun _ => ?_) (fun hk0 => ?_)
  · refine zs_goto (tgt := 1403) B dL_law_681 (by decide) ?_
    refine zs_widen (k := cells + 2) (n := slots + 12) (by omega) (by omega) ?_
    exact kk _ _ _ _ _ _ _ _ hC' hR' hM'
  · refine zs_aload_n B dL_law_669 (i := 3) rfl rfl ?_
    refine zs_iconst (v := 0) B dL_law_670 (by decide) ?_
    refine zs_lal (f := f') (n := 1) B 0 (zL_at _ _ _) (by decide) (by decide) nI_0.symm dL_law_671 ?_
    refine zs_iload B dL_law_672 (i := 6) rfl ?_
    refine zs_i2l B dL_law_674 ?_
    refine zs_lcmp B dL_law_675 ?_
    refine zs_if_eq (tgt := 681) B dL_law_676 (by decide) (fun _ => ?_) (fun h => absurd (zL_cmp ((hf' hk0).trans (by rw [hv hk0]))) h)
    refine zs_goto (tgt := 1403) B dL_law_681 (by decide) ?_
    refine zs_widen (k := cells + 2) (n := slots + 12) (by omega) (by omega) ?_
    exact kk _ _ _ _ _ _ _ _ hC' hR' hM'
set_option maxHeartbeats 8000000 in
theorem zL_c_way {p : Program} {l : Launch} {e : Env} {s : State} {m : MethodId} {args : Array Value} {below : List Frame} {meth : Method} {c : Code} {Q : State → Prop} {ret : Option FieldType} {nm : String} {tb : List ExceptionTableEntry} {D : va_G} {dA : Nat → ClassId} {A : Nat → Prop} {ad0 : Nat → Nat} {cells slots : Nat} (hl : l.stackTraces = false) (B : zw_B p l s m args meth c cL_law 7 ret RL nm wsL_law tb D dA A) {n9 : Nat} {xs : Nat → Int32} (hX : zL_X s A ad0 n9 xs) {x : zb_D} {T : zb_T} {d : zm_D} {U : zm_U} {t : Int32} {f : Nat → Int64} (hR : zb_R T x) (hM : zm_R U t d) (hC : zL_C T U) (j : Nat) (hj : 4 * j + 4 ≤ n9) {o5 o6 : Option Value} (hc : cells + 2 ≤ room_1.cells ∧ slots + 12 ≤ room_1.slots)
    (kk : zL_K p l e s m args below meth c Q D dA A ad0 cells slots j) : zw_k p l e room_1 s m args below meth c Q D dA A ad0 0 7 cells slots (zL_W x d f) 684 [some (.ref 1000), some (.ref 0), some (.ref 70), some (.ref 105), some (.int (nI (4 * j))), o5, o6] [] := by
  obtain ⟨k, a, E, T', U', hk, hT, hC', hb, hm⟩ := zX_way hl D dA hR hM hC ((xs (4 * j + 1)).toUInt32 % 65536).toInt32
  refine zs_aload_n B dL_law_684 (i := 1) rfl rfl ?_
  refine zs_aload_n B dL_law_685 (i := 0) rfl rfl ?_
  refine zs_iload B dL_law_686 (i := 4) rfl ?_
  refine zs_iconst (v := 1) B dL_law_688 (by decide) ?_
  refine zs_iadd B dL_law_689 ?_
  refine zs_sal B hX (j := 4 * j + 1) (nI_add (4 * j) 1) (by omega) dL_law_690 ?_
  refine zs_i2c B dL_law_691 ?_
  refine zs_aload_n B dL_law_692 (i := 3) rfl rfl ?_
  refine zs_callSW (n := 3) (wlc := zb_W x ++ [zL_o f]) (as := [.ref 0, .int ((xs (4 * j + 1)).toUInt32 % 65536).toInt32, .ref 70]) (rest := []) zL_isB B (hL_way hl D dA hR ((xs (4 * j + 1)).toUInt32 % 65536).toInt32 f k a E T' hk hT hb) gL_law_L_way rfl ⟨by decide, by decide, by decide +kernel⟩ rfl (zL_selB x d f) zL_ndB rfl ⟨(by exact Nat.le_of_ble_eq_true rfl), (by exact Nat.le_of_ble_eq_true rfl)⟩ (by exact Nat.le_of_ble_eq_true rfl) ⟨by omega, by omega⟩ dL_law_693 zH_len (fun _ _ h => h.elim) (fun _ _ h => h.elim) ?_
  rintro r w ⟨x', f', rfl, rfl, hR', hf'⟩
  refine zs_eq (wl' := zL_W x' d f') (st' := [.int k]) (zL_bkB x x' d f f') rfl rfl rfl ?_
  refine zs_istore B dL_law_696 (i := 5) (by decide) rfl ?_
  refine zs_aload_n B dL_law_698 (i := 2) rfl rfl ?_
  refine zs_aload_n B dL_law_699 (i := 0) rfl rfl ?_
  refine zs_iload B dL_law_700 (i := 4) rfl ?_
  refine zs_iconst (v := 1) B dL_law_702 (by decide) ?_
  refine zs_iadd B dL_law_703 ?_
  refine zs_sal B hX (j := 4 * j + 1) (nI_add (4 * j) 1) (by omega) dL_law_704 ?_
  refine zs_i2c B dL_law_705 ?_
  refine zs_callV (n := 1) (wlc := zm_W 0 d) (as := [.int ((xs (4 * j + 1)).toUInt32 % 65536).toInt32]) (rest := []) (b := 0) zm_is B hm gL_law_X5_way rfl ⟨rfl, by decide, by decide, by decide +kernel⟩ rfl (zL_selM x' d f') zm_nd rfl rfl rfl ⟨(by exact Nat.le_of_ble_eq_true rfl), (by exact Nat.le_of_ble_eq_true rfl)⟩ (by exact Nat.le_of_ble_eq_true rfl) ⟨by omega, by omega⟩ dL_law_706 zG_len (fun _ _ h => h.elim) (fun _ _ h => h.elim) ?_
  rintro r w ⟨d', v, rfl, rfl, hM', hv⟩
  refine zs_eq (wl' := zL_W x' d' f') (st' := [.int v]) (zL_bkM x' d d' f') rfl rfl rfl ?_
  refine zs_istore B dL_law_709 (i := 6) (by decide) rfl ?_
  refine zs_aload_n B dL_law_711 (i := 2) rfl rfl ?_
  refine zs_callV (n := 0) (wlc := zm_W 0 d') (as := []) (rest := []) (b := 0) zm_is B (zm_thrown hl D dA d' U' k hM') gL_law_X5_thrown rfl ⟨rfl, by decide, by decide, by decide +kernel⟩ rfl (zL_selM x' d' f') zm_nd rfl rfl rfl ⟨(by exact Nat.le_of_ble_eq_true rfl), (by exact Nat.le_of_ble_eq_true rfl)⟩ (by exact Nat.le_of_ble_eq_true rfl) ⟨by omega, by omega⟩ dL_law_712 (by rintro v w ⟨rfl, rfl⟩; rfl) (fun _ _ h => h.elim) (fun _ _ h => h.elim) ?_
  rintro r w ⟨rfl, rfl⟩
  refine zs_eq (wl' := zL_W x' d' f') (st' := [.int k]) (zL_bkM x' d' d' f') rfl rfl rfl ?_
  refine zs_iload B dL_law_715 (i := 5) rfl ?_
  refine zs_icmp_eq (tgt := 722) B dL_law_717 (by decide) (fun _ => ?_) (fun h => absurd rfl h)
  refine zs_iload B dL_law_722 (i := 5) rfl ?_
  refine zs_if_ne (tgt := 739) B dL_law_724 (by decide) (fun _ => ?_) (fun hk0 => ?_)
  · refine zs_goto (tgt := 1403) B dL_law_739 (by decide) ?_
    refine zs_widen (k := cells + 2) (n := slots + 12) (by omega) (by omega) ?_
    exact kk _ _ _ _ _ _ _ _ hC' hR' hM'
  · refine zs_aload_n B dL_law_727 (i := 3) rfl rfl ?_
    refine zs_iconst (v := 0) B dL_law_728 (by decide) ?_
    refine zs_lal (f := f') (n := 1) B 0 (zL_at _ _ _) (by decide) (by decide) nI_0.symm dL_law_729 ?_
    refine zs_iload B dL_law_730 (i := 6) rfl ?_
    refine zs_i2l B dL_law_732 ?_
    refine zs_lcmp B dL_law_733 ?_
    refine zs_if_eq (tgt := 739) B dL_law_734 (by decide) (fun _ => ?_) (fun h => absurd (zL_cmp ((hf' hk0).trans (by rw [hv hk0]))) h)
    refine zs_goto (tgt := 1403) B dL_law_739 (by decide) ?_
    refine zs_widen (k := cells + 2) (n := slots + 12) (by omega) (by omega) ?_
    exact kk _ _ _ _ _ _ _ _ hC' hR' hM'
set_option maxHeartbeats 8000000 in
theorem zL_c_keyAt {p : Program} {l : Launch} {e : Env} {s : State} {m : MethodId} {args : Array Value} {below : List Frame} {meth : Method} {c : Code} {Q : State → Prop} {ret : Option FieldType} {nm : String} {tb : List ExceptionTableEntry} {D : va_G} {dA : Nat → ClassId} {A : Nat → Prop} {ad0 : Nat → Nat} {cells slots : Nat} (hl : l.stackTraces = false) (B : zw_B p l s m args meth c cL_law 7 ret RL nm wsL_law tb D dA A) {n9 : Nat} {xs : Nat → Int32} (hX : zL_X s A ad0 n9 xs) {x : zb_D} {T : zb_T} {d : zm_D} {U : zm_U} {t : Int32} {f : Nat → Int64} (hR : zb_R T x) (hM : zm_R U t d) (hC : zL_C T U) (j : Nat) (hj : 4 * j + 4 ≤ n9) {o5 o6 : Option Value} (hc : cells + 2 ≤ room_1.cells ∧ slots + 12 ≤ room_1.slots)
    (kk : zL_K p l e s m args below meth c Q D dA A ad0 cells slots j) : zw_k p l e room_1 s m args below meth c Q D dA A ad0 0 7 cells slots (zL_W x d f) 742 [some (.ref 1000), some (.ref 0), some (.ref 70), some (.ref 105), some (.int (nI (4 * j))), o5, o6] [] := by
  obtain ⟨k, a, E, T', U', hk, hT, hC', hb, hm⟩ := zX_keyAt hl D dA hR hM hC ((xs (4 * j + 1)).toUInt32 % 65536).toInt32 (xs (4 * j + 2))
  refine zs_aload_n B dL_law_742 (i := 1) rfl rfl ?_
  refine zs_aload_n B dL_law_743 (i := 0) rfl rfl ?_
  refine zs_iload B dL_law_744 (i := 4) rfl ?_
  refine zs_iconst (v := 1) B dL_law_746 (by decide) ?_
  refine zs_iadd B dL_law_747 ?_
  refine zs_sal B hX (j := 4 * j + 1) (nI_add (4 * j) 1) (by omega) dL_law_748 ?_
  refine zs_i2c B dL_law_749 ?_
  refine zs_aload_n B dL_law_750 (i := 0) rfl rfl ?_
  refine zs_iload B dL_law_751 (i := 4) rfl ?_
  refine zs_iconst (v := 2) B dL_law_753 (by decide) ?_
  refine zs_iadd B dL_law_754 ?_
  refine zs_sal B hX (j := 4 * j + 2) (nI_add (4 * j) 2) (by omega) dL_law_755 ?_
  refine zs_aload_n B dL_law_756 (i := 3) rfl rfl ?_
  refine zs_callSW (n := 4) (wlc := zb_W x ++ [zL_o f]) (as := [.ref 0, .int ((xs (4 * j + 1)).toUInt32 % 65536).toInt32, .int (xs (4 * j + 2)), .ref 70]) (rest := []) zL_isB B (hL_keyAt hl D dA hR ((xs (4 * j + 1)).toUInt32 % 65536).toInt32 (xs (4 * j + 2)) f k a E T' hk hT hb) gL_law_L_keyAt rfl ⟨by decide, by decide, by decide +kernel⟩ rfl (zL_selB x d f) zL_ndB rfl ⟨(by exact Nat.le_of_ble_eq_true rfl), (by exact Nat.le_of_ble_eq_true rfl)⟩ (by exact Nat.le_of_ble_eq_true rfl) ⟨by omega, by omega⟩ dL_law_757 zH_len (fun _ _ h => h.elim) (fun _ _ h => h.elim) ?_
  rintro r w ⟨x', f', rfl, rfl, hR', hf'⟩
  refine zs_eq (wl' := zL_W x' d f') (st' := [.int k]) (zL_bkB x x' d f f') rfl rfl rfl ?_
  refine zs_istore B dL_law_760 (i := 5) (by decide) rfl ?_
  refine zs_aload_n B dL_law_762 (i := 2) rfl rfl ?_
  refine zs_aload_n B dL_law_763 (i := 0) rfl rfl ?_
  refine zs_iload B dL_law_764 (i := 4) rfl ?_
  refine zs_iconst (v := 1) B dL_law_766 (by decide) ?_
  refine zs_iadd B dL_law_767 ?_
  refine zs_sal B hX (j := 4 * j + 1) (nI_add (4 * j) 1) (by omega) dL_law_768 ?_
  refine zs_i2c B dL_law_769 ?_
  refine zs_aload_n B dL_law_770 (i := 0) rfl rfl ?_
  refine zs_iload B dL_law_771 (i := 4) rfl ?_
  refine zs_iconst (v := 2) B dL_law_773 (by decide) ?_
  refine zs_iadd B dL_law_774 ?_
  refine zs_sal B hX (j := 4 * j + 2) (nI_add (4 * j) 2) (by omega) dL_law_775 ?_
  refine zs_callV (n := 2) (wlc := zm_W 0 d) (as := [.int ((xs (4 * j + 1)).toUInt32 % 65536).toInt32, .int (xs (4 * j + 2))]) (rest := []) (b := 0) zm_is B hm gL_law_X5_keyAt rfl ⟨rfl, by decide, by decide, by decide +kernel⟩ rfl (zL_selM x' d f') zm_nd rfl rfl rfl ⟨(by exact Nat.le_of_ble_eq_true rfl), (by exact Nat.le_of_ble_eq_true rfl)⟩ (by exact Nat.le_of_ble_eq_true rfl) ⟨by omega, by omega⟩ dL_law_776 zG_len (fun _ _ h => h.elim) (fun _ _ h => h.elim) ?_
  rintro r w ⟨d', v, rfl, rfl, hM', hv⟩
  refine zs_eq (wl' := zL_W x' d' f') (st' := [.int v]) (zL_bkM x' d d' f') rfl rfl rfl ?_
  refine zs_istore B dL_law_779 (i := 6) (by decide) rfl ?_
  refine zs_aload_n B dL_law_781 (i := 2) rfl rfl ?_
  refine zs_callV (n := 0) (wlc := zm_W 0 d') (as := []) (rest := []) (b := 0) zm_is B (zm_thrown hl D dA d' U' k hM') gL_law_X5_thrown rfl ⟨rfl, by decide, by decide, by decide +kernel⟩ rfl (zL_selM x' d' f') zm_nd rfl rfl rfl ⟨(by exact Nat.le_of_ble_eq_true rfl), (by exact Nat.le_of_ble_eq_true rfl)⟩ (by exact Nat.le_of_ble_eq_true rfl) ⟨by omega, by omega⟩ dL_law_782 (by rintro v w ⟨rfl, rfl⟩; rfl) (fun _ _ h => h.elim) (fun _ _ h => h.elim) ?_
  rintro r w ⟨rfl, rfl⟩
  refine zs_eq (wl' := zL_W x' d' f') (st' := [.int k]) (zL_bkM x' d' d' f') rfl rfl rfl ?_
  refine zs_iload B dL_law_785 (i := 5) rfl ?_
  refine zs_icmp_eq (tgt := 792) B dL_law_787 (by decide) (fun _ => ?_) (fun h => absurd rfl h)
  refine zs_iload B dL_law_792 (i := 5) rfl ?_
  refine zs_if_ne (tgt := 809) B dL_law_794 (by decide) (fun _ => ?_) (fun hk0 => ?_)
  · refine zs_goto (tgt := 1403) B dL_law_809 (by decide) ?_
    refine zs_widen (k := cells + 2) (n := slots + 12) (by omega) (by omega) ?_
    exact kk _ _ _ _ _ _ _ _ hC' hR' hM'
  · refine zs_aload_n B dL_law_797 (i := 3) rfl rfl ?_
    refine zs_iconst (v := 0) B dL_law_798 (by decide) ?_
    refine zs_lal (f := f') (n := 1) B 0 (zL_at _ _ _) (by decide) (by decide) nI_0.symm dL_law_799 ?_
    refine zs_iload B dL_law_800 (i := 6) rfl ?_
    refine zs_i2l B dL_law_802 ?_
    refine zs_lcmp B dL_law_803 ?_
    refine zs_if_eq (tgt := 809) B dL_law_804 (by decide) (fun _ => ?_) (fun h => absurd (zL_cmp ((hf' hk0).trans (by rw [hv hk0]))) h)
    refine zs_goto (tgt := 1403) B dL_law_809 (by decide) ?_
    refine zs_widen (k := cells + 2) (n := slots + 12) (by omega) (by omega) ?_
    exact kk _ _ _ _ _ _ _ _ hC' hR' hM'
