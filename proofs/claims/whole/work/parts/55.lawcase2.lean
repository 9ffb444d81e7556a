/-! the law: more of its cases -/
set_option maxHeartbeats 8000000 in
theorem zL_c_putIfAbsent {p : Program} {l : Launch} {e : Env} {s : State} {m : MethodId} {args : Array Value} {below : List Frame} {meth : Method} {c : Code} {Q : State → Prop} {ret : Option FieldType} {nm : String} {tb : List ExceptionTableEntry} {D : va_G} {dA : Nat → ClassId} {A : Nat → Prop} {ad0 : Nat → Nat} {cells slots : Nat} (hl : l.stackTraces = false) (B : zw_B p l s m args meth c cL_law 7 ret RL nm wsL_law tb D dA A) {n9 : Nat} {xs : Nat → Int32} (hX : zL_X s A ad0 n9 xs) {x : zb_D} {T : zb_T} {d : zm_D} {U : zm_U} {t : Int32} {f : Nat → Int64} (hR : zb_R T x) (hM : zm_R U t d) (hC : zL_C T U) (j : Nat) (hj : 4 * j + 4 ≤ n9) {o5 o6 : Option Value} (hc : cells + 2 ≤ room_1.cells ∧ slots + 12 ≤ room_1.slots)
    (kk : zL_K p l e s m args below meth c Q D dA A ad0 cells slots j) : zw_k p l e room_1 s m args below meth c Q D dA A ad0 0 7 cells slots (zL_W x d f) 224 [some (.ref 1000), some (.ref 0), some (.ref 70), some (.ref 105), some (.int (nI (4 * j))), o5, o6] [] := by
  obtain ⟨k, a, E, T', U', ha, hk, hT, hC', hb, hm⟩ := zX_putIfAbsent hl D dA hR hM hC (xs (4 * j + 1)) (xs (4 * j + 2))
  refine zs_aload_n B dL_law_224 (i := 1) rfl rfl ?_
  refine zs_aload_n B dL_law_225 (i := 0) rfl rfl ?_
  refine zs_iload B dL_law_226 (i := 4) rfl ?_
  refine zs_iconst (v := 1) B dL_law_228 (by decide) ?_
  refine zs_iadd B dL_law_229 ?_
  refine zs_sal B hX (j := 4 * j + 1) (nI_add (4 * j) 1) (by omega) dL_law_230 ?_
  refine zs_aload_n B dL_law_231 (i := 0) rfl rfl ?_
  refine zs_iload B dL_law_232 (i := 4) rfl ?_
  refine zs_iconst (v := 2) B dL_law_234 (by decide) ?_
  refine zs_iadd B dL_law_235 ?_
  refine zs_sal B hX (j := 4 * j + 2) (nI_add (4 * j) 2) (by omega) dL_law_236 ?_
  refine zs_aload_n B dL_law_237 (i := 3) rfl rfl ?_
  refine zs_callSW (n := 4) (wlc := zb_W x ++ [zL_o f]) (as := [.ref 0, .int (xs (4 * j + 1)), .int (xs (4 * j + 2)), .ref 70]) (rest := []) zL_isB B (hL_putIfAbsent hl D dA hR (xs (4 * j + 1)) (xs (4 * j + 2)) f k a E T' hk hT ha hb) gL_law_L_putIfAbsent rfl ⟨by decide, by decide, by decide +kernel⟩ rfl (zL_selB x d f) zL_ndB rfl ⟨(by exact Nat.le_of_ble_eq_true rfl), (by exact Nat.le_of_ble_eq_true rfl)⟩ (by exact Nat.le_of_ble_eq_true rfl) ⟨by omega, by omega⟩ dL_law_238 zH_len (fun _ _ h => h.elim) (fun _ _ h => h.elim) ?_
  rintro r w ⟨x', f', rfl, rfl, hR', hf'⟩
  refine zs_eq (wl' := zL_W x' d f') (st' := [.int k]) (zL_bkB x x' d f f') rfl rfl rfl ?_
  refine zs_istore B dL_law_241 (i := 5) (by decide) rfl ?_
  refine zs_aload_n B dL_law_243 (i := 2) rfl rfl ?_
  refine zs_aload_n B dL_law_244 (i := 0) rfl rfl ?_
  refine zs_iload B dL_law_245 (i := 4) rfl ?_
  refine zs_iconst (v := 1) B dL_law_247 (by decide) ?_
  refine zs_iadd B dL_law_248 ?_
  refine zs_sal B hX (j := 4 * j + 1) (nI_add (4 * j) 1) (by omega) dL_law_249 ?_
  refine zs_aload_n B dL_law_250 (i := 0) rfl rfl ?_
  refine zs_iload B dL_law_251 (i := 4) rfl ?_
  refine zs_iconst (v := 2) B dL_law_253 (by decide) ?_
  refine zs_iadd B dL_law_254 ?_
  refine zs_sal B hX (j := 4 * j + 2) (nI_add (4 * j) 2) (by omega) dL_law_255 ?_
  refine zs_callV (n := 2) (wlc := zm_W 0 d) (as := [.int (xs (4 * j + 1)), .int (xs (4 * j + 2))]) (rest := []) (b := 0) zm_is B hm gL_law_X5_putIfAbsent rfl ⟨rfl, by decide, by decide, by decide +kernel⟩ rfl (zL_selM x' d f') zm_nd rfl rfl rfl ⟨(by exact Nat.le_of_ble_eq_true rfl), (by exact Nat.le_of_ble_eq_true rfl)⟩ (by exact Nat.le_of_ble_eq_true rfl) ⟨by omega, by omega⟩ dL_law_256 zG_len (fun _ _ h => h.elim) (fun _ _ h => h.elim) ?_
  rintro r w ⟨d', v, rfl, rfl, hM', hv⟩
  refine zs_eq (wl' := zL_W x' d' f') (st' := [.int v]) (zL_bkM x' d d' f') rfl rfl rfl ?_
  refine zs_istore B dL_law_259 (i := 6) (by decide) rfl ?_
  refine zs_aload_n B dL_law_261 (i := 2) rfl rfl ?_
  refine zs_callV (n := 0) (wlc := zm_W 0 d') (as := []) (rest := []) (b := 0) zm_is B (zm_thrown hl D dA d' U' k hM') gL_law_X5_thrown rfl ⟨rfl, by decide, by decide, by decide +kernel⟩ rfl (zL_selM x' d' f') zm_nd rfl rfl rfl ⟨(by exact Nat.le_of_ble_eq_true rfl), (by exact Nat.le_of_ble_eq_true rfl)⟩ (by exact Nat.le_of_ble_eq_true rfl) ⟨by omega, by omega⟩ dL_law_262 (by rintro v w ⟨rfl, rfl⟩; rfl) (fun _ _ h => h.elim) (fun _ _ h => h.elim) ?_
  rintro r w ⟨rfl, rfl⟩
  refine zs_eq (wl' := zL_W x' d' f') (st' := [.int k]) (zL_bkM x' d' d' f') rfl rfl rfl ?_
  refine zs_iload B dL_law_265 (i := 5) rfl ?_
  refine zs_icmp_eq (tgt := 272) B dL_law_267 (by decide) (fun _ => ?_) (fun h => absurd rfl h)
  refine zs_iload B dL_law_272 (i := 5) rfl ?_
  refine zs_if_ne (tgt := 296) B dL_law_274 (by decide) (fun _ => ?_) (fun hk0 => ?_)
  · refine zs_goto (tgt := 1403) B dL_law_296 (by decide) ?_
    refine zs_widen (k := cells + 2) (n := slots + 12) (by omega) (by omega) ?_
    exact kk _ _ _ _ _ _ _ _ hC' hR' hM'
  · refine zs_aload_n B dL_law_277 (i := 3) rfl rfl ?_
    refine zs_iconst (v := 0) B dL_law_278 (by decide) ?_
    refine zs_lal (f := f') (n := 1) B 0 (zL_at _ _ _) (by decide) (by decide) nI_0.symm dL_law_279 ?_
    refine zs_iload B dL_law_280 (i := 6) rfl ?_
    refine zs_if_eq (tgt := 289) B dL_law_282 (by decide) (fun hz => ?_) (fun hz => ?_)
    · refine zs_lconst (v := 0) B dL_law_289 (by decide) ?_
      refine zs_lcmp B dL_law_290 ?_
      refine zs_if_eq (tgt := 296) B dL_law_291 (by decide) (fun _ => ?_) (fun h => absurd (zL_cmp ((hf' hk0).trans (by rw [← hv hk0, hz]; rfl))) h)
      refine zs_goto (tgt := 1403) B dL_law_296 (by decide) ?_
      refine zs_widen (k := cells + 2) (n := slots + 12) (by omega) (by omega) ?_
      exact kk _ _ _ _ _ _ _ _ hC' hR' hM'
    · refine zs_lconst (v := 1) B dL_law_285 (by decide) ?_
      refine zs_goto (tgt := 290) B dL_law_286 (by decide) ?_
      refine zs_lcmp B dL_law_290 ?_
      refine zs_if_eq (tgt := 296) B dL_law_291 (by decide) (fun _ => ?_) (fun h => absurd (zL_cmp ((hf' hk0).trans (by rw [ha.resolve_left (fun q => hz ((hv hk0).trans q))]; rfl))) h)
      refine zs_goto (tgt := 1403) B dL_law_296 (by decide) ?_
      refine zs_widen (k := cells + 2) (n := slots + 12) (by omega) (by omega) ?_
      exact kk _ _ _ _ _ _ _ _ hC' hR' hM'
set_option maxHeartbeats 8000000 in
theorem zL_c_get {p : Program} {l : Launch} {e : Env} {s : State} {m : MethodId} {args : Array Value} {below : List Frame} {meth : Method} {c : Code} {Q : State → Prop} {ret : Option FieldType} {nm : String} {tb : List ExceptionTableEntry} {D : va_G} {dA : Nat → ClassId} {A : Nat → Prop} {ad0 : Nat → Nat} {cells slots : Nat} (hl : l.stackTraces = false) (B : zw_B p l s m args meth c cL_law 7 ret RL nm wsL_law tb D dA A) {n9 : Nat} {xs : Nat → Int32} (hX : zL_X s A ad0 n9 xs) {x : zb_D} {T : zb_T} {d : zm_D} {U : zm_U} {t : Int32} {f : Nat → Int64} (hR : zb_R T x) (hM : zm_R U t d) (hC : zL_C T U) (j : Nat) (hj : 4 * j + 4 ≤ n9) {o5 o6 : Option Value} (hc : cells + 2 ≤ room_1.cells ∧ slots + 12 ≤ room_1.slots)
    (kk : zL_K p l e s m args below meth c Q D dA A ad0 cells slots j) : zw_k p l e room_1 s m args below meth c Q D dA A ad0 0 7 cells slots (zL_W x d f) 299 [some (.ref 1000), some (.ref 0), some (.ref 70), some (.ref 105), some (.int (nI (4 * j))), o5, o6] [] := by
  obtain ⟨k, a, E, T', U', hk, hT, hC', hb, hm⟩ := zX_get hl D dA hR hM hC (xs (4 * j + 1))
  refine zs_aload_n B dL_law_299 (i := 1) rfl rfl ?_
  refine zs_aload_n B dL_law_300 (i := 0) rfl rfl ?_
  refine zs_iload B dL_law_301 (i := 4) rfl ?_
  refine zs_iconst (v := 1) B dL_law_303 (by decide) ?_
  refine zs_iadd B dL_law_304 ?_
  refine zs_sal B hX (j := 4 * j + 1) (nI_add (4 * j) 1) (by omega) dL_law_305 ?_
  refine zs_aload_n B dL_law_306 (i := 3) rfl rfl ?_
  refine zs_callSW (n := 3) (wlc := zb_W x ++ [zL_o f]) (as := [.ref 0, .int (xs (4 * j + 1)), .ref 70]) (rest := []) zL_isB B (hL_get hl D dA hR (xs (4 * j + 1)) f k a E T' hk hT hb) gL_law_L_get rfl ⟨by decide, by decide, by decide +kernel⟩ rfl (zL_selB x d f) zL_ndB rfl ⟨(by exact Nat.le_of_ble_eq_true rfl), (by exact Nat.le_of_ble_eq_true rfl)⟩ (by exact Nat.le_of_ble_eq_true rfl) ⟨by omega, by omega⟩ dL_law_307 zH_len (fun _ _ h => h.elim) (fun _ _ h => h.elim) ?_
  rintro r w ⟨x', f', rfl, rfl, hR', hf'⟩
  refine zs_eq (wl' := zL_W x' d f') (st' := [.int k]) (zL_bkB x x' d f f') rfl rfl rfl ?_
  refine zs_istore B dL_law_310 (i := 5) (by decide) rfl ?_
  refine zs_aload_n B dL_law_312 (i := 2) rfl rfl ?_
  refine zs_aload_n B dL_law_313 (i := 0) rfl rfl ?_
  refine zs_iload B dL_law_314 (i := 4) rfl ?_
  refine zs_iconst (v := 1) B dL_law_316 (by decide) ?_
  refine zs_iadd B dL_law_317 ?_
  refine zs_sal B hX (j := 4 * j + 1) (nI_add (4 * j) 1) (by omega) dL_law_318 ?_
  refine zs_callV (n := 1) (wlc := zm_W 0 d) (as := [.int (xs (4 * j + 1))]) (rest := []) (b := 0) zm_is B hm gL_law_X5_get rfl ⟨rfl, by decide, by decide, by decide +kernel⟩ rfl (zL_selM x' d f') zm_nd rfl rfl rfl ⟨(by exact Nat.le_of_ble_eq_true rfl), (by exact Nat.le_of_ble_eq_true rfl)⟩ (by exact Nat.le_of_ble_eq_true rfl) ⟨by omega, by omega⟩ dL_law_319 zG_len (fun _ _ h => h.elim) (fun _ _ h => h.elim) ?_
  rintro r w ⟨d', v, rfl, rfl, hM', hv⟩
  refine zs_eq (wl' := zL_W x' d' f') (st' := [.int v]) (zL_bkM x' d d' f') rfl rfl rfl ?_
  refine zs_istore B dL_law_322 (i := 6) (by decide) rfl ?_
  refine zs_aload_n B dL_law_324 (i := 2) rfl rfl ?_
  refine zs_callV (n := 0) (wlc := zm_W 0 d') (as := []) (rest := []) (b := 0) zm_is B (zm_thrown hl D dA d' U' k hM') gL_law_X5_thrown rfl ⟨rfl, by decide, by decide, by decide +kernel⟩ rfl (zL_selM x' d' f') zm_nd rfl rfl rfl ⟨(by exact Nat.le_of_ble_eq_true rfl), (by exact Nat.le_of_ble_eq_true rfl)⟩ (by exact Nat.le_of_ble_eq_true rfl) ⟨by omega, by omega⟩ dL_law_325 (by rintro v w ⟨rfl, rfl⟩; rfl) (fun _ _ h => h.elim) (fun _ _ h => h.elim) ?_
  rintro r w ⟨rfl, rfl⟩
  refine zs_eq (wl' := zL_W x' d' f') (st' := [.int k]) (zL_bkM x' d' d' f') rfl rfl rfl ?_
  refine zs_iload B dL_law_328 (i := 5) rfl ?_
  refine zs_icmp_eq (tgt := 335) B dL_law_330 (by decide) (fun _ => ?_) (fun h => absurd rfl h)
  refine zs_iload B dL_law_335 (i := 5) rfl ?_
  refine zs_if_ne (tgt := 352) B dL_law_337 (by decide) (fun _ => ?_) (fun hk0 => ?_)
  · refine zs_goto (tgt := 1403) B dL_law_352 (by decide) ?_
    refine zs_widen (k := cells + 2) (n := slots + 12) (by omega) (by omega) ?_
    exact kk _ _ _ _ _ _ _ _ hC' hR' hM'
  · refine zs_aload_n B dL_law_340 (i := 3) rfl rfl ?_
    refine zs_iconst (v := 0) B dL_law_341 (by decide) ?_
    refine zs_lal (f := f') (n := 1) B 0 (zL_at _ _ _) (by decide) (by decide) nI_0.symm dL_law_342 ?_
    refine zs_iload B dL_law_343 (i := 6) rfl ?_
    refine zs_i2l B dL_law_345 ?_
    refine zs_lcmp B dL_law_346 ?_
    refine zs_if_eq (tgt := 352) B dL_law_347 (by decide) (fun _ => ?_) (fun h => absurd (zL_cmp ((hf' hk0).trans (by rw [hv hk0]))) h)
    refine zs_goto (tgt := 1403) B dL_law_352 (by decide) ?_
    refine zs_widen (k := cells + 2) (n := slots + 12) (by omega) (by omega) ?_
    exact kk _ _ _ _ _ _ _ _ hC' hR' hM'
set_option maxHeartbeats 8000000 in
theorem zL_c_getOr {p : Program} {l : Launch} {e : Env} {s : State} {m : MethodId} {args : Array Value} {below : List Frame} {meth : Method} {c : Code} {Q : State → Prop} {ret : Option FieldType} {nm : String} {tb : List ExceptionTableEntry} {D : va_G} {dA : Nat → ClassId} {A : Nat → Prop} {ad0 : Nat → Nat} {cells slots : Nat} (hl : l.stackTraces = false) (B : zw_B p l s m args meth c cL_law 7 ret RL nm wsL_law tb D dA A) {n9 : Nat} {xs : Nat → Int32} (hX : zL_X s A ad0 n9 xs) {x : zb_D} {T : zb_T} {d : zm_D} {U : zm_U} {t : Int32} {f : Nat → Int64} (hR : zb_R T x) (hM : zm_R U t d) (hC : zL_C T U) (j : Nat) (hj : 4 * j + 4 ≤ n9) {o5 o6 : Option Value} (hc : cells + 2 ≤ room_1.cells ∧ slots + 12 ≤ room_1.slots)
    (kk : zL_K p l e s m args below meth c Q D dA A ad0 cells slots j) : zw_k p l e room_1 s m args below meth c Q D dA A ad0 0 7 cells slots (zL_W x d f) 355 [some (.ref 1000), some (.ref 0), some (.ref 70), some (.ref 105), some (.int (nI (4 * j))), o5, o6] [] := by
  obtain ⟨a, T', U', hC', hb, hm⟩ := zX_getOr hl D dA hR hM hC (xs (4 * j + 1)) (xs (4 * j + 2))
  refine zs_aload_n B dL_law_355 (i := 1) rfl rfl ?_
  refine zs_aload_n B dL_law_356 (i := 0) rfl rfl ?_
  refine zs_iload B dL_law_357 (i := 4) rfl ?_
  refine zs_iconst (v := 1) B dL_law_359 (by decide) ?_
  refine zs_iadd B dL_law_360 ?_
  refine zs_sal B hX (j := 4 * j + 1) (nI_add (4 * j) 1) (by omega) dL_law_361 ?_
  refine zs_aload_n B dL_law_362 (i := 0) rfl rfl ?_
  refine zs_iload B dL_law_363 (i := 4) rfl ?_
  refine zs_iconst (v := 2) B dL_law_365 (by decide) ?_
  refine zs_iadd B dL_law_366 ?_
  refine zs_sal B hX (j := 4 * j + 2) (nI_add (4 * j) 2) (by omega) dL_law_367 ?_
  refine zs_callV (n := 2) (wlc := zb_W x) (as := [.int (xs (4 * j + 1)), .int (xs (4 * j + 2))]) (rest := []) (b := 0) zL_is B hb gL_law_X4_getOr rfl ⟨rfl, by decide, by decide, by decide +kernel⟩ rfl (zL_sel x (zm_W 70 d ++ [zL_o f])) zL_nd rfl rfl rfl ⟨(by exact Nat.le_of_ble_eq_true rfl), (by exact Nat.le_of_ble_eq_true rfl)⟩ (by exact Nat.le_of_ble_eq_true rfl) ⟨by omega, by omega⟩ dL_law_368 zD_len (fun _ _ h => h.elim) (fun _ _ h => h.elim) ?_
  rintro r w ⟨-, x', rfl, rfl, hR'⟩
  refine zs_eq (wl' := zL_W x' d f) (st' := [.int a]) (zL_bk x x' _) rfl rfl rfl ?_
  refine zs_aload_n B dL_law_371 (i := 2) rfl rfl ?_
  refine zs_aload_n B dL_law_372 (i := 0) rfl rfl ?_
  refine zs_iload B dL_law_373 (i := 4) rfl ?_
  refine zs_iconst (v := 1) B dL_law_375 (by decide) ?_
  refine zs_iadd B dL_law_376 ?_
  refine zs_sal B hX (j := 4 * j + 1) (nI_add (4 * j) 1) (by omega) dL_law_377 ?_
  refine zs_aload_n B dL_law_378 (i := 0) rfl rfl ?_
  refine zs_iload B dL_law_379 (i := 4) rfl ?_
  refine zs_iconst (v := 2) B dL_law_381 (by decide) ?_
  refine zs_iadd B dL_law_382 ?_
  refine zs_sal B hX (j := 4 * j + 2) (nI_add (4 * j) 2) (by omega) dL_law_383 ?_
  refine zs_callV (n := 2) (wlc := zm_W 0 d) (as := [.int (xs (4 * j + 1)), .int (xs (4 * j + 2))]) (rest := [.int a]) (b := 0) zm_is B hm gL_law_X5_getOr rfl ⟨rfl, by decide, by decide, by decide +kernel⟩ rfl (zL_selM x' d f) zm_nd rfl rfl rfl ⟨(by exact Nat.le_of_ble_eq_true rfl), (by exact Nat.le_of_ble_eq_true rfl)⟩ (by exact Nat.le_of_ble_eq_true rfl) ⟨by omega, by omega⟩ dL_law_384 zG_len (fun _ _ h => h.elim) (fun _ _ h => h.elim) ?_
  rintro r w ⟨d', v, rfl, rfl, hM', hv⟩
  refine zs_eq (wl' := zL_W x' d' f) (st' := [.int v, .int a]) (zL_bkM x' d d' f) rfl rfl rfl ?_
  refine zs_icmp_eq (tgt := 1403) B dL_law_387 (by decide) (fun _ => ?_) (fun h => absurd (hv rfl).symm h)
  refine zs_widen (k := cells + 2) (n := slots + 12) (by omega) (by omega) ?_
  exact kk _ _ _ _ _ _ _ _ hC' hR' hM'
set_option maxHeartbeats 8000000 in
theorem zL_c_replace {p : Program} {l : Launch} {e : Env} {s : State} {m : MethodId} {args : Array Value} {below : List Frame} {meth : Method} {c : Code} {Q : State → Prop} {ret : Option FieldType} {nm : String} {tb : List ExceptionTableEntry} {D : va_G} {dA : Nat → ClassId} {A : Nat → Prop} {ad0 : Nat → Nat} {cells slots : Nat} (hl : l.stackTraces = false) (B : zw_B p l s m args meth c cL_law 7 ret RL nm wsL_law tb D dA A) {n9 : Nat} {xs : Nat → Int32} (hX : zL_X s A ad0 n9 xs) {x : zb_D} {T : zb_T} {d : zm_D} {U : zm_U} {t : Int32} {f : Nat → Int64} (hR : zb_R T x) (hM : zm_R U t d) (hC : zL_C T U) (j : Nat) (hj : 4 * j + 4 ≤ n9) {o5 o6 : Option Value} (hc : cells + 2 ≤ room_1.cells ∧ slots + 12 ≤ room_1.slots)
    (kk : zL_K p l e s m args below meth c Q D dA A ad0 cells slots j) : zw_k p l e room_1 s m args below meth c Q D dA A ad0 0 7 cells slots (zL_W x d f) 392 [some (.ref 1000), some (.ref 0), some (.ref 70), some (.ref 105), some (.int (nI (4 * j))), o5, o6] [] := by
  obtain ⟨a, T', U', hC', hb, hm⟩ := zX_replace hl D dA hR hM hC (xs (4 * j + 1)) (xs (4 * j + 2))
  refine zs_aload_n B dL_law_392 (i := 1) rfl rfl ?_
  refine zs_aload_n B dL_law_393 (i := 0) rfl rfl ?_
  refine zs_iload B dL_law_394 (i := 4) rfl ?_
  refine zs_iconst (v := 1) B dL_law_396 (by decide) ?_
  refine zs_iadd B dL_law_397 ?_
  refine zs_sal B hX (j := 4 * j + 1) (nI_add (4 * j) 1) (by omega) dL_law_398 ?_
  refine zs_aload_n B dL_law_399 (i := 0) rfl rfl ?_
  refine zs_iload B dL_law_400 (i := 4) rfl ?_
  refine zs_iconst (v := 2) B dL_law_402 (by decide) ?_
  refine zs_iadd B dL_law_403 ?_
  refine zs_sal B hX (j := 4 * j + 2) (nI_add (4 * j) 2) (by omega) dL_law_404 ?_
  refine zs_callV (n := 2) (wlc := zb_W x) (as := [.int (xs (4 * j + 1)), .int (xs (4 * j + 2))]) (rest := []) (b := 0) zL_is B hb gL_law_X4_replace rfl ⟨rfl, by decide, by decide, by decide +kernel⟩ rfl (zL_sel x (zm_W 70 d ++ [zL_o f])) zL_nd rfl rfl rfl ⟨(by exact Nat.le_of_ble_eq_true rfl), (by exact Nat.le_of_ble_eq_true rfl)⟩ (by exact Nat.le_of_ble_eq_true rfl) ⟨by omega, by omega⟩ dL_law_405 zD_len (fun _ _ h => h.elim) (fun _ _ h => h.elim) ?_
  rintro r w ⟨-, x', rfl, rfl, hR'⟩
  refine zs_eq (wl' := zL_W x' d f) (st' := [.int a]) (zL_bk x x' _) rfl rfl rfl ?_
  refine zs_aload_n B dL_law_408 (i := 2) rfl rfl ?_
  refine zs_aload_n B dL_law_409 (i := 0) rfl rfl ?_
  refine zs_iload B dL_law_410 (i := 4) rfl ?_
  refine zs_iconst (v := 1) B dL_law_412 (by decide) ?_
  refine zs_iadd B dL_law_413 ?_
  refine zs_sal B hX (j := 4 * j + 1) (nI_add (4 * j) 1) (by omega) dL_law_414 ?_
  refine zs_aload_n B dL_law_415 (i := 0) rfl rfl ?_
  refine zs_iload B dL_law_416 (i := 4) rfl ?_
  refine zs_iconst (v := 2) B dL_law_418 (by decide) ?_
  refine zs_iadd B dL_law_419 ?_
  refine zs_sal B hX (j := 4 * j + 2) (nI_add (4 * j) 2) (by omega) dL_law_420 ?_
  refine zs_callV (n := 2) (wlc := zm_W 0 d) (as := [.int (xs (4 * j + 1)), .int (xs (4 * j + 2))]) (rest := [.int a]) (b := 0) zm_is B hm gL_law_X5_replace rfl ⟨rfl, by decide, by decide, by decide +kernel⟩ rfl (zL_selM x' d f) zm_nd rfl rfl rfl ⟨(by exact Nat.le_of_ble_eq_true rfl), (by exact Nat.le_of_ble_eq_true rfl)⟩ (by exact Nat.le_of_ble_eq_true rfl) ⟨by omega, by omega⟩ dL_law_421 zG_len (fun _ _ h => h.elim) (fun _ _ h => h.elim) ?_
  rintro r w ⟨d', v, rfl, rfl, hM', hv⟩
  refine zs_eq (wl' := zL_W x' d' f) (st' := [.int v, .int a]) (zL_bkM x' d d' f) rfl rfl rfl ?_
  refine zs_icmp_eq (tgt := 1403) B dL_law_424 (by decide) (fun _ => ?_) (fun h => absurd (hv rfl).symm h)
  refine zs_widen (k := cells + 2) (n := slots + 12) (by omega) (by omega) ?_
  exact kk _ _ _ _ _ _ _ _ hC' hR' hM'
set_option maxHeartbeats 8000000 in
theorem zL_c_replaceIf {p : Program} {l : Launch} {e : Env} {s : State} {m : MethodId} {args : Array Value} {below : List Frame} {meth : Method} {c : Code} {Q : State → Prop} {ret : Option FieldType} {nm : String} {tb : List ExceptionTableEntry} {D : va_G} {dA : Nat → ClassId} {A : Nat → Prop} {ad0 : Nat → Nat} {cells slots : Nat} (hl : l.stackTraces = false) (B : zw_B p l s m args meth c cL_law 7 ret RL nm wsL_law tb D dA A) {n9 : Nat} {xs : Nat → Int32} (hX : zL_X s A ad0 n9 xs) {x : zb_D} {T : zb_T} {d : zm_D} {U : zm_U} {t : Int32} {f : Nat → Int64} (hR : zb_R T x) (hM : zm_R U t d) (hC : zL_C T U) (j : Nat) (hj : 4 * j + 4 ≤ n9) {o5 o6 : Option Value} (hc : cells + 2 ≤ room_1.cells ∧ slots + 12 ≤ room_1.slots)
    (kk : zL_K p l e s m args below meth c Q D dA A ad0 cells slots j) : zw_k p l e room_1 s m args below meth c Q D dA A ad0 0 7 cells slots (zL_W x d f) 429 [some (.ref 1000), some (.ref 0), some (.ref 70), some (.ref 105), some (.int (nI (4 * j))), o5, o6] [] := by
  obtain ⟨a, T', U', hC', hb, hm⟩ := zX_replaceIf hl D dA hR hM hC (xs (4 * j + 1)) (xs (4 * j + 2)) (xs (4 * j + 3))
  refine zs_aload_n B dL_law_429 (i := 1) rfl rfl ?_
  refine zs_aload_n B dL_law_430 (i := 0) rfl rfl ?_
  refine zs_iload B dL_law_431 (i := 4) rfl ?_
  refine zs_iconst (v := 1) B dL_law_433 (by decide) ?_
  refine zs_iadd B dL_law_434 ?_
  refine zs_sal B hX (j := 4 * j + 1) (nI_add (4 * j) 1) (by omega) dL_law_435 ?_
  refine zs_aload_n B dL_law_436 (i := 0) rfl rfl ?_
  refine zs_iload B dL_law_437 (i := 4) rfl ?_
  refine zs_iconst (v := 2) B dL_law_439 (by decide) ?_
  refine zs_iadd B dL_law_440 ?_
  refine zs_sal B hX (j := 4 * j + 2) (nI_add (4 * j) 2) (by omega) dL_law_441 ?_
  refine zs_aload_n B dL_law_442 (i := 0) rfl rfl ?_
  refine zs_iload B dL_law_443 (i := 4) rfl ?_
  refine zs_iconst (v := 3) B dL_law_445 (by decide) ?_
  refine zs_iadd B dL_law_446 ?_
  refine zs_sal B hX (j := 4 * j + 3) (nI_add (4 * j) 3) (by omega) dL_law_447 ?_
  refine zs_callV (n := 3) (wlc := zb_W x) (as := [.int (xs (4 * j + 1)), .int (xs (4 * j + 2)), .int (xs (4 * j + 3))]) (rest := []) (b := 0) zL_is B hb gL_law_X4_replaceIf rfl ⟨rfl, by decide, by decide, by decide +kernel⟩ rfl (zL_sel x (zm_W 70 d ++ [zL_o f])) zL_nd rfl rfl rfl ⟨(by exact Nat.le_of_ble_eq_true rfl), (by exact Nat.le_of_ble_eq_true rfl)⟩ (by exact Nat.le_of_ble_eq_true rfl) ⟨by omega, by omega⟩ dL_law_448 zD_len (fun _ _ h => h.elim) (fun _ _ h => h.elim) ?_
  rintro r w ⟨-, x', rfl, rfl, hR'⟩
  refine zs_eq (wl' := zL_W x' d f) (st' := [.int a]) (zL_bk x x' _) rfl rfl rfl ?_
  refine zs_aload_n B dL_law_451 (i := 2) rfl rfl ?_
  refine zs_aload_n B dL_law_452 (i := 0) rfl rfl ?_
  refine zs_iload B dL_law_453 (i := 4) rfl ?_
  refine zs_iconst (v := 1) B dL_law_455 (by decide) ?_
  refine zs_iadd B dL_law_456 ?_
  refine zs_sal B hX (j := 4 * j + 1) (nI_add (4 * j) 1) (by omega) dL_law_457 ?_
  refine zs_aload_n B dL_law_458 (i := 0) rfl rfl ?_
  refine zs_iload B dL_law_459 (i := 4) rfl ?_
  refine zs_iconst (v := 2) B dL_law_461 (by decide) ?_
  refine zs_iadd B dL_law_462 ?_
  refine zs_sal B hX (j := 4 * j + 2) (nI_add (4 * j) 2) (by omega) dL_law_463 ?_
  refine zs_aload_n B dL_law_464 (i := 0) rfl rfl ?_
  refine zs_iload B dL_law_465 (i := 4) rfl ?_
  refine zs_iconst (v := 3) B dL_law_467 (by decide) ?_
  refine zs_iadd B dL_law_468 ?_
  refine zs_sal B hX (j := 4 * j + 3) (nI_add (4 * j) 3) (by omega) dL_law_469 ?_
  refine zs_callV (n := 3) (wlc := zm_W 0 d) (as := [.int (xs (4 * j + 1)), .int (xs (4 * j + 2)), .int (xs (4 * j + 3))]) (rest := [.int a]) (b := 0) zm_is B hm gL_law_X5_replaceIf rfl ⟨rfl, by decide, by decide, by decide +kernel⟩ rfl (zL_selM x' d f) zm_nd rfl rfl rfl ⟨(by exact Nat.le_of_ble_eq_true rfl), (by exact Nat.le_of_ble_eq_true rfl)⟩ (by exact Nat.le_of_ble_eq_true rfl) ⟨by omega, by omega⟩ dL_law_470 zG_len (fun _ _ h => h.elim) (fun _ _ h => h.elim) ?_
  rintro r w ⟨d', v, rfl, rfl, hM', hv⟩
  refine zs_eq (wl' := zL_W x' d' f) (st' := [.int v, .int a]) (zL_bkM x' d d' f) rfl rfl rfl ?_
  refine zs_icmp_eq (tgt := 1403) B dL_law_473 (by decide) (fun _ => ?_) (fun h => absurd (hv rfl).symm h)
  refine zs_widen (k := cells + 2) (n := slots + 12) (by omega) (by omega) ?_
  exact kk _ _ _ _ _ _ _ _ hC' hR' hM'
set_option maxHeartbeats 8000000 in
theorem zL_c_look {p : Program} {l : Launch} {e : Env} {s : State} {m : MethodId} {args : Array Value} {below : List Frame} {meth : Method} {c : Code} {Q : State → Prop} {ret : Option FieldType} {nm : String} {tb : List ExceptionTableEntry} {D : va_G} {dA : Nat → ClassId} {A : Nat → Prop} {ad0 : Nat → Nat} {cells slots : Nat} (hl : l.stackTraces = false) (B : zw_B p l s m args meth c cL_law 7 ret RL nm wsL_law tb D dA A) {n9 : Nat} {xs : Nat → Int32} (hX : zL_X s A ad0 n9 xs) {x : zb_D} {T : zb_T} {d : zm_D} {U : zm_U} {t : Int32} {f : Nat → Int64} (hR : zb_R T x) (hM : zm_R U t d) (hC : zL_C T U) (j : Nat) (hj : 4 * j + 4 ≤ n9) {o5 o6 : Option Value} (hc : cells + 2 ≤ room_1.cells ∧ slots + 12 ≤ room_1.slots)
    (kk : zL_K p l e s m args below meth c Q D dA A ad0 cells slots j) : zw_k p l e room_1 s m args below meth c Q D dA A ad0 0 7 cells slots (zL_W x d f) 478 [some (.ref 1000), some (.ref 0), some (.ref 70), some (.ref 105), some (.int (nI (4 * j))), o5, o6] [] := by
  obtain ⟨k, a, E, T', U', hk, hT, hC', hb, hm⟩ := zX_look hl D dA hR hM hC (xs (4 * j + 1))
  refine zs_aload_n B dL_law_478 (i := 1) rfl rfl ?_
  refine zs_aload_n B dL_law_479 (i := 0) rfl rfl ?_
  refine zs_iload B dL_law_480 (i := 4) rfl ?_
  refine zs_iconst (v := 1) B dL_law_482 (by decide) ?_
  refine zs_iadd B dL_law_483 ?_
  refine zs_sal B hX (j := 4 * j + 1) (nI_add (4 * j) 1) (by omega) dL_law_484 ?_
  refine zs_aload_n B dL_law_485 (i := 3) rfl rfl ?_
  refine zs_callSW (n := 3) (wlc := zb_W x ++ [zL_o f]) (as := [.ref 0, .int (xs (4 * j + 1)), .ref 70]) (rest := []) zL_isB B (hL_look hl D dA hR (xs (4 * j + 1)) f k a E T' hk hT hb) gL_law_L_look rfl ⟨by decide, by decide, by decide +kernel⟩ rfl (zL_selB x d f) zL_ndB rfl ⟨(by exact Nat.le_of_ble_eq_true rfl), (by exact Nat.le_of_ble_eq_true rfl)⟩ (by exact Nat.le_of_ble_eq_true rfl) ⟨by omega, by omega⟩ dL_law_486 zH_len (fun _ _ h => h.elim) (fun _ _ h => h.elim) ?_
  rintro r w ⟨x', f', rfl, rfl, hR', hf'⟩
  refine zs_eq (wl' := zL_W x' d f') (st' := [.int k]) (zL_bkB x x' d f f') rfl rfl rfl ?_
  refine zs_istore B dL_law_489 (i := 5) (by decide) rfl ?_
  refine zs_aload_n B dL_law_491 (i := 2) rfl rfl ?_
  refine zs_aload_n B dL_law_492 (i := 0) rfl rfl ?_
  refine zs_iload B dL_law_493 (i := 4) rfl ?_
  refine zs_iconst (v := 1) B dL_law_495 (by decide) ?_
  refine zs_iadd B dL_law_496 ?_
  refine zs_sal B hX (j := 4 * j + 1) (nI_add (4 * j) 1) (by omega) dL_law_497 ?_
  refine zs_callV (n := 1) (wlc := zm_W 0 d) (as := [.int (xs (4 * j + 1))]) (rest := []) (b := 0) zm_is B hm gL_law_X5_look rfl ⟨rfl, by decide, by decide, by decide +kernel⟩ rfl (zL_selM x' d f') zm_nd rfl rfl rfl ⟨(by exact Nat.le_of_ble_eq_true rfl), (by exact Nat.le_of_ble_eq_true rfl)⟩ (by exact Nat.le_of_ble_eq_true rfl) ⟨by omega, by omega⟩ dL_law_498 zG_len (fun _ _ h => h.elim) (fun _ _ h => h.elim) ?_
  rintro r w ⟨d', v, rfl, rfl, hM', hv⟩
  refine zs_eq (wl' := zL_W x' d' f') (st' := [.int v]) (zL_bkM x' d d' f') rfl rfl rfl ?_
  refine zs_istore B dL_law_501 (i := 6) (by decide) rfl ?_
  refine zs_aload_n B dL_law_503 (i := 2) rfl rfl ?_
  refine zs_callV (n := 0) (wlc := zm_W 0 d') (as := []) (rest := []) (b := 0) zm_is B (zm_thrown hl D dA d' U' k hM') gL_law_X5_thrown rfl ⟨rfl, by decide, by decide, by decide +kernel⟩ rfl (zL_selM x' d' f') zm_nd rfl rfl rfl ⟨(by exact Nat.le_of_ble_eq_true rfl), (by exact Nat.le_of_ble_eq_true rfl)⟩ (by exact Nat.le_of_ble_eq_true rfl) ⟨by omega, by omega⟩ dL_law_504 (by rintro v w ⟨rfl, rfl⟩; rfl) (fun _ _ h => h.elim) (fun _ _ h => h.elim) ?_
  rintro r w ⟨rfl, rfl⟩
  refine zs_eq (wl' := zL_W x' d' f') (st' := [.int k]) (zL_bkM x' d' d' f') rfl rfl rfl ?_
  refine zs_iload B dL_law_507 (i := 5) rfl ?_
  refine zs_icmp_eq (tgt := 514) B dL_law_509 (by decide) (fun _ => ?_) (fun h => absurd rfl h)
  refine zs_iload B dL_law_514 (i := 5) rfl ?_
  refine zs_if_ne (tgt := 531) B dL_law_516 (by decide) (fun _ => ?_) (fun hk0 => ?_)
  · refine zs_goto (tgt := 1403) B dL_law_531 (by decide) ?_
    refine zs_widen (k := cells + 2) (n := slots + 12) (by omega) (by omega) ?_
    exact kk _ _ _ _ _ _ _ _ hC' hR' hM'
  · refine zs_aload_n B dL_law_519 (i := 3) rfl rfl ?_
    refine zs_iconst (v := 0) B dL_law_520 (by decide) ?_
    refine zs_lal (f := f') (n := 1) B 0 (zL_at _ _ _) (by decide) (by decide) nI_0.symm dL_law_521 ?_
    refine zs_iload B dL_law_522 (i := 6) rfl ?_
    refine zs_i2l B dL_law_524 ?_
    refine zs_lcmp B dL_law_525 ?_
    refine zs_if_eq (tgt := 531) B dL_law_526 (by decide) (fun _ => ?_) (fun h => absurd (zL_cmp ((hf' hk0).trans (by rw [hv hk0]))) h)
    refine zs_goto (tgt := 1403) B dL_law_531 (by decide) ?_
    refine zs_widen (k := cells + 2) (n := slots + 12) (by omega) (by omega) ?_
    exact kk _ _ _ _ _ _ _ _ hC' hR' hM'
