/-! the law: more of its cases -/
set_option maxHeartbeats 8000000 in
theorem zL_c_cut {p : Program} {l : Launch} {e : Env} {s : State} {m : MethodId} {args : Array Value} {below : List Frame} {meth : Method} {c : Code} {Q : State → Prop} {ret : Option FieldType} {nm : String} {tb : List ExceptionTableEntry} {D : va_G} {dA : Nat → ClassId} {A : Nat → Prop} {ad0 : Nat → Nat} {cells slots : Nat} (hl : l.stackTraces = false) (B : zw_B p l s m args meth c cL_law 7 ret RL nm wsL_law tb D dA A) {n9 : Nat} {xs : Nat → Int32} (hX : zL_X s A ad0 n9 xs) {x : zb_D} {T : zb_T} {d : zm_D} {U : zm_U} {t : Int32} {f : Nat → Int64} (hR : zb_R T x) (hM : zm_R U t d) (hC : zL_C T U) (j : Nat) (hj : 4 * j + 4 ≤ n9) {o5 o6 : Option Value} (hc : cells + 2 ≤ room_1.cells ∧ slots + 12 ≤ room_1.slots)
    (kk : zL_K p l e s m args below meth c Q D dA A ad0 cells slots j) : zw_k p l e room_1 s m args below meth c Q D dA A ad0 0 7 cells slots (zL_W x d f) 1206 [some (.ref 1000), some (.ref 0), some (.ref 70), some (.ref 105), some (.int (nI (4 * j))), o5, o6] [] := by
  obtain ⟨k, a, E, T', U', hk, hT, hC', hb, hm⟩ := zX_cut hl D dA hR hM hC
  refine zs_aload_n B dL_law_1206 (i := 1) rfl rfl ?_
  refine zs_aload_n B dL_law_1207 (i := 3) rfl rfl ?_
  refine zs_callSW (n := 2) (wlc := zb_W x ++ [zL_o f]) (as := [.ref 0, .ref 70]) (rest := []) zL_isB B (hL_cut hl D dA hR f k a E T' hk hT hb) gL_law_L_cut rfl ⟨by decide, by decide, by decide +kernel⟩ rfl (zL_selB x d f) zL_ndB rfl ⟨(by exact Nat.le_of_ble_eq_true rfl), (by exact Nat.le_of_ble_eq_true rfl)⟩ (by exact Nat.le_of_ble_eq_true rfl) ⟨by omega, by omega⟩ dL_law_1208 zH_len (fun _ _ h => h.elim) (fun _ _ h => h.elim) ?_
  rintro r w ⟨x', f', rfl, rfl, hR', hf'⟩
  refine zs_eq (wl' := zL_W x' d f') (st' := [.int k]) (zL_bkB x x' d f f') rfl rfl rfl ?_
  refine zs_istore B dL_law_1211 (i := 5) (by decide) rfl ?_
  refine zs_aload_n B dL_law_1213 (i := 2) rfl rfl ?_
  refine zs_callV (n := 0) (wlc := zm_W 0 d) (as := []) (rest := []) (b := 0) zm_is B hm gL_law_X5_cut rfl ⟨rfl, by decide, by decide, by decide +kernel⟩ rfl (zL_selM x' d f') zm_nd rfl rfl rfl ⟨(by exact Nat.le_of_ble_eq_true rfl), (by exact Nat.le_of_ble_eq_true rfl)⟩ (by exact Nat.le_of_ble_eq_true rfl) ⟨by omega, by omega⟩ dL_law_1214 zG_len (fun _ _ h => h.elim) (fun _ _ h => h.elim) ?_
  rintro r w ⟨d', v, rfl, rfl, hM', hv⟩
  refine zs_eq (wl' := zL_W x' d' f') (st' := [.int v]) (zL_bkM x' d d' f') rfl rfl rfl ?_
  refine zs_istore B dL_law_1217 (i := 6) (by decide) rfl ?_
  refine zs_aload_n B dL_law_1219 (i := 2) rfl rfl ?_
  refine zs_callV (n := 0) (wlc := zm_W 0 d') (as := []) (rest := []) (b := 0) zm_is B (zm_thrown hl D dA d' U' k hM') gL_law_X5_thrown rfl ⟨rfl, by decide, by decide, by decide +kernel⟩ rfl (zL_selM x' d' f') zm_nd rfl rfl rfl ⟨(by exact Nat.le_of_ble_eq_true rfl), (by exact Nat.le_of_ble_eq_true rfl)⟩ (by exact Nat.le_of_ble_eq_true rfl) ⟨by omega, by omega⟩ dL_law_1220 (by rintro v w ⟨rfl, rfl⟩; rfl) (fun _ _ h => h.elim) (fun _ _ h => h.elim) ?_
  rintro r w ⟨rfl, rfl⟩
  refine zs_eq (wl' := zL_W x' d' f') (st' := [.int k]) (zL_bkM x' d' d' f') rfl rfl rfl ?_
  refine zs_iload B dL_law_1223 (i := 5) rfl ?_
  refine zs_icmp_eq (tgt := 1230) B dL_law_1225 (by decide) (fun _ => ?_) (fun h => absurd rfl h)
  refine zs_iload B dL_law_1230 (i := 5) rfl ?_
  refine zs_if_ne (tgt := 1247) B dL_law_1232 (by decide) (fun _ => ?_) (fun hk0 => ?_)
  · refine zs_goto (tgt := 1403) B dL_law_1247 (by decide) ?_
    refine zs_widen (k := cells + 2) (n := slots + 12) (by omega) (by omega) ?_
    exact kk _ _ _ _ _ _ _ _ hC' hR' hM'
  · refine zs_aload_n B dL_law_1235 (i := 3) rfl rfl ?_
    refine zs_iconst (v := 0) B dL_law_1236 (by decide) ?_
    refine zs_lal (f := f') (n := 1) B 0 (zL_at _ _ _) (by decide) (by decide) nI_0.symm dL_law_1237 ?_
    refine zs_iload B dL_law_1238 (i := 6) rfl ?_
    refine zs_i2l B dL_law_1240 ?_
    refine zs_lcmp B dL_law_1241 ?_
    refine zs_if_eq (tgt := 1247) B dL_law_1242 (by decide) (fun _ => ?_) (fun h => absurd (zL_cmp ((hf' hk0).trans (by rw [hv hk0]))) h)
    refine zs_goto (tgt := 1403) B dL_law_1247 (by decide) ?_
    refine zs_widen (k := cells + 2) (n := slots + 12) (by omega) (by omega) ?_
    exact kk _ _ _ _ _ _ _ _ hC' hR' hM'
set_option maxHeartbeats 8000000 in
theorem zL_c_moves {p : Program} {l : Launch} {e : Env} {s : State} {m : MethodId} {args : Array Value} {below : List Frame} {meth : Method} {c : Code} {Q : State → Prop} {ret : Option FieldType} {nm : String} {tb : List ExceptionTableEntry} {D : va_G} {dA : Nat → ClassId} {A : Nat → Prop} {ad0 : Nat → Nat} {cells slots : Nat} (hl : l.stackTraces = false) (B : zw_B p l s m args meth c cL_law 7 ret RL nm wsL_law tb D dA A) {n9 : Nat} {xs : Nat → Int32} (hX : zL_X s A ad0 n9 xs) {x : zb_D} {T : zb_T} {d : zm_D} {U : zm_U} {t : Int32} {f : Nat → Int64} (hR : zb_R T x) (hM : zm_R U t d) (hC : zL_C T U) (j : Nat) (hj : 4 * j + 4 ≤ n9) {o5 o6 : Option Value} (hc : cells + 2 ≤ room_1.cells ∧ slots + 12 ≤ room_1.slots)
    (kk : zL_K p l e s m args below meth c Q D dA A ad0 cells slots j) : zw_k p l e room_1 s m args below meth c Q D dA A ad0 0 7 cells slots (zL_W x d f) 1250 [some (.ref 1000), some (.ref 0), some (.ref 70), some (.ref 105), some (.int (nI (4 * j))), o5, o6] [] := by
  obtain ⟨a, T', U', hC', hb, hm⟩ := zX_moves hl D dA hR hM hC
  refine zs_aload_n B dL_law_1250 (i := 1) rfl rfl ?_
  refine zs_callV (n := 0) (wlc := zb_W x) (as := []) (rest := []) (b := 0) zL_is B hb gL_law_X4_moves rfl ⟨rfl, by decide, by decide, by decide +kernel⟩ rfl (zL_sel x (zm_W 70 d ++ [zL_o f])) zL_nd rfl rfl rfl ⟨(by exact Nat.le_of_ble_eq_true rfl), (by exact Nat.le_of_ble_eq_true rfl)⟩ (by exact Nat.le_of_ble_eq_true rfl) ⟨by omega, by omega⟩ dL_law_1251 zD_len (fun _ _ h => h.elim) (fun _ _ h => h.elim) ?_
  rintro r w ⟨-, x', rfl, rfl, hR'⟩
  refine zs_eq (wl' := zL_W x' d f) (st' := [.int a]) (zL_bk x x' _) rfl rfl rfl ?_
  refine zs_aload_n B dL_law_1254 (i := 2) rfl rfl ?_
  refine zs_callV (n := 0) (wlc := zm_W 0 d) (as := []) (rest := [.int a]) (b := 0) zm_is B hm gL_law_X5_moves rfl ⟨rfl, by decide, by decide, by decide +kernel⟩ rfl (zL_selM x' d f) zm_nd rfl rfl rfl ⟨(by exact Nat.le_of_ble_eq_true rfl), (by exact Nat.le_of_ble_eq_true rfl)⟩ (by exact Nat.le_of_ble_eq_true rfl) ⟨by omega, by omega⟩ dL_law_1255 zG_len (fun _ _ h => h.elim) (fun _ _ h => h.elim) ?_
  rintro r w ⟨d', v, rfl, rfl, hM', hv⟩
  refine zs_eq (wl' := zL_W x' d' f) (st' := [.int v, .int a]) (zL_bkM x' d d' f) rfl rfl rfl ?_
  refine zs_icmp_eq (tgt := 1403) B dL_law_1258 (by decide) (fun _ => ?_) (fun h => absurd (hv rfl).symm h)
  refine zs_widen (k := cells + 2) (n := slots + 12) (by omega) (by omega) ?_
  exact kk _ _ _ _ _ _ _ _ hC' hR' hM'
set_option maxHeartbeats 8000000 in
theorem zL_c_move {p : Program} {l : Launch} {e : Env} {s : State} {m : MethodId} {args : Array Value} {below : List Frame} {meth : Method} {c : Code} {Q : State → Prop} {ret : Option FieldType} {nm : String} {tb : List ExceptionTableEntry} {D : va_G} {dA : Nat → ClassId} {A : Nat → Prop} {ad0 : Nat → Nat} {cells slots : Nat} (hl : l.stackTraces = false) (B : zw_B p l s m args meth c cL_law 7 ret RL nm wsL_law tb D dA A) {n9 : Nat} {xs : Nat → Int32} (hX : zL_X s A ad0 n9 xs) {x : zb_D} {T : zb_T} {d : zm_D} {U : zm_U} {t : Int32} {f : Nat → Int64} (hR : zb_R T x) (hM : zm_R U t d) (hC : zL_C T U) (j : Nat) (hj : 4 * j + 4 ≤ n9) {o5 o6 : Option Value} (hc : cells + 2 ≤ room_1.cells ∧ slots + 12 ≤ room_1.slots)
    (kk : zL_K p l e s m args below meth c Q D dA A ad0 cells slots j) : zw_k p l e room_1 s m args below meth c Q D dA A ad0 0 7 cells slots (zL_W x d f) 1263 [some (.ref 1000), some (.ref 0), some (.ref 70), some (.ref 105), some (.int (nI (4 * j))), o5, o6] [] := by
  obtain ⟨k, a, E, T', U', hk, hT, hC', hb, hm⟩ := zX_move hl D dA hR hM hC (xs (4 * j + 1))
  refine zs_aload_n B dL_law_1263 (i := 1) rfl rfl ?_
  refine zs_aload_n B dL_law_1264 (i := 0) rfl rfl ?_
  refine zs_iload B dL_law_1265 (i := 4) rfl ?_
  refine zs_iconst (v := 1) B dL_law_1267 (by decide) ?_
  refine zs_iadd B dL_law_1268 ?_
  refine zs_sal B hX (j := 4 * j + 1) (nI_add (4 * j) 1) (by omega) dL_law_1269 ?_
  refine zs_aload_n B dL_law_1270 (i := 3) rfl rfl ?_
  refine zs_callSW (n := 3) (wlc := zb_W x ++ [zL_o f]) (as := [.ref 0, .int (xs (4 * j + 1)), .ref 70]) (rest := []) zL_isB B (hL_move hl D dA hR (xs (4 * j + 1)) f k a E T' hk hT hb) gL_law_L_move rfl ⟨by decide, by decide, by decide +kernel⟩ rfl (zL_selB x d f) zL_ndB rfl ⟨(by exact Nat.le_of_ble_eq_true rfl), (by exact Nat.le_of_ble_eq_true rfl)⟩ (by exact Nat.le_of_ble_eq_true rfl) ⟨by omega, by omega⟩ dL_law_1271 zH_len (fun _ _ h => h.elim) (fun _ _ h => h.elim) ?_
  rintro r w ⟨x', f', rfl, rfl, hR', hf'⟩
  refine zs_eq (wl' := zL_W x' d f') (st' := [.int k]) (zL_bkB x x' d f f') rfl rfl rfl ?_
  refine zs_istore B dL_law_1274 (i := 5) (by decide) rfl ?_
  refine zs_aload_n B dL_law_1276 (i := 2) rfl rfl ?_
  refine zs_aload_n B dL_law_1277 (i := 0) rfl rfl ?_
  refine zs_iload B dL_law_1278 (i := 4) rfl ?_
  refine zs_iconst (v := 1) B dL_law_1280 (by decide) ?_
  refine zs_iadd B dL_law_1281 ?_
  refine zs_sal B hX (j := 4 * j + 1) (nI_add (4 * j) 1) (by omega) dL_law_1282 ?_
  refine zs_callV (n := 1) (wlc := zm_W 0 d) (as := [.int (xs (4 * j + 1))]) (rest := []) (b := 0) zm_is B hm gL_law_X5_move rfl ⟨rfl, by decide, by decide, by decide +kernel⟩ rfl (zL_selM x' d f') zm_nd rfl rfl rfl ⟨(by exact Nat.le_of_ble_eq_true rfl), (by exact Nat.le_of_ble_eq_true rfl)⟩ (by exact Nat.le_of_ble_eq_true rfl) ⟨by omega, by omega⟩ dL_law_1283 zG_len (fun _ _ h => h.elim) (fun _ _ h => h.elim) ?_
  rintro r w ⟨d', v, rfl, rfl, hM', hv⟩
  refine zs_eq (wl' := zL_W x' d' f') (st' := [.int v]) (zL_bkM x' d d' f') rfl rfl rfl ?_
  refine zs_istore B dL_law_1286 (i := 6) (by decide) rfl ?_
  refine zs_aload_n B dL_law_1288 (i := 2) rfl rfl ?_
  refine zs_callV (n := 0) (wlc := zm_W 0 d') (as := []) (rest := []) (b := 0) zm_is B (zm_thrown hl D dA d' U' k hM') gL_law_X5_thrown rfl ⟨rfl, by decide, by decide, by decide +kernel⟩ rfl (zL_selM x' d' f') zm_nd rfl rfl rfl ⟨(by exact Nat.le_of_ble_eq_true rfl), (by exact Nat.le_of_ble_eq_true rfl)⟩ (by exact Nat.le_of_ble_eq_true rfl) ⟨by omega, by omega⟩ dL_law_1289 (by rintro v w ⟨rfl, rfl⟩; rfl) (fun _ _ h => h.elim) (fun _ _ h => h.elim) ?_
  rintro r w ⟨rfl, rfl⟩
  refine zs_eq (wl' := zL_W x' d' f') (st' := [.int k]) (zL_bkM x' d' d' f') rfl rfl rfl ?_
  refine zs_iload B dL_law_1292 (i := 5) rfl ?_
  refine zs_icmp_eq (tgt := 1299) B dL_law_1294 (by decide) (fun _ => ?_) (fun h => absurd rfl h)
  refine zs_iload B dL_law_1299 (i := 5) rfl ?_
  refine zs_if_ne (tgt := 1316) B dL_law_1301 (by decide) (fun _ => ?_) (fun hk0 => ?_)
  · refine zs_goto (tgt := 1403) B dL_law_1316 (by decide) ?_
    refine zs_widen (k := cells + 2) (n := slots + 12) (by omega) (by omega) ?_
    exact kk _ _ _ _ _ _ _ _ hC' hR' hM'
  · refine zs_aload_n B dL_law_1304 (i := 3) rfl rfl ?_
    refine zs_iconst (v := 0) B dL_law_1305 (by decide) ?_
    refine zs_lal (f := f') (n := 1) B 0 (zL_at _ _ _) (by decide) (by decide) nI_0.symm dL_law_1306 ?_
    refine zs_iload B dL_law_1307 (i := 6) rfl ?_
    refine zs_i2l B dL_law_1309 ?_
    refine zs_lcmp B dL_law_1310 ?_
    refine zs_if_eq (tgt := 1316) B dL_law_1311 (by decide) (fun _ => ?_) (fun h => absurd (zL_cmp ((hf' hk0).trans (by rw [hv hk0]))) h)
    refine zs_goto (tgt := 1403) B dL_law_1316 (by decide) ?_
    refine zs_widen (k := cells + 2) (n := slots + 12) (by omega) (by omega) ?_
    exact kk _ _ _ _ _ _ _ _ hC' hR' hM'
set_option maxHeartbeats 8000000 in
theorem zL_c_crossings {p : Program} {l : Launch} {e : Env} {s : State} {m : MethodId} {args : Array Value} {below : List Frame} {meth : Method} {c : Code} {Q : State → Prop} {ret : Option FieldType} {nm : String} {tb : List ExceptionTableEntry} {D : va_G} {dA : Nat → ClassId} {A : Nat → Prop} {ad0 : Nat → Nat} {cells slots : Nat} (hl : l.stackTraces = false) (B : zw_B p l s m args meth c cL_law 7 ret RL nm wsL_law tb D dA A) {n9 : Nat} {xs : Nat → Int32} (hX : zL_X s A ad0 n9 xs) {x : zb_D} {T : zb_T} {d : zm_D} {U : zm_U} {t : Int32} {f : Nat → Int64} (hR : zb_R T x) (hM : zm_R U t d) (hC : zL_C T U) (j : Nat) (hj : 4 * j + 4 ≤ n9) {o5 o6 : Option Value} (hc : cells + 2 ≤ room_1.cells ∧ slots + 12 ≤ room_1.slots)
    (kk : zL_K p l e s m args below meth c Q D dA A ad0 cells slots j) : zw_k p l e room_1 s m args below meth c Q D dA A ad0 0 7 cells slots (zL_W x d f) 1319 [some (.ref 1000), some (.ref 0), some (.ref 70), some (.ref 105), some (.int (nI (4 * j))), o5, o6] [] := by
  obtain ⟨a, T', U', hC', hb, hm⟩ := zX_crossings hl D dA hR hM hC
  refine zs_aload_n B dL_law_1319 (i := 1) rfl rfl ?_
  refine zs_callV (n := 0) (wlc := zb_W x) (as := []) (rest := []) (b := 0) zL_is B hb gL_law_X4_crossings rfl ⟨rfl, by decide, by decide, by decide +kernel⟩ rfl (zL_sel x (zm_W 70 d ++ [zL_o f])) zL_nd rfl rfl rfl ⟨(by exact Nat.le_of_ble_eq_true rfl), (by exact Nat.le_of_ble_eq_true rfl)⟩ (by exact Nat.le_of_ble_eq_true rfl) ⟨by omega, by omega⟩ dL_law_1320 zD_len (fun _ _ h => h.elim) (fun _ _ h => h.elim) ?_
  rintro r w ⟨-, x', rfl, rfl, hR'⟩
  refine zs_eq (wl' := zL_W x' d f) (st' := [.int a]) (zL_bk x x' _) rfl rfl rfl ?_
  refine zs_aload_n B dL_law_1323 (i := 2) rfl rfl ?_
  refine zs_callV (n := 0) (wlc := zm_W 0 d) (as := []) (rest := [.int a]) (b := 0) zm_is B hm gL_law_X5_crossings rfl ⟨rfl, by decide, by decide, by decide +kernel⟩ rfl (zL_selM x' d f) zm_nd rfl rfl rfl ⟨(by exact Nat.le_of_ble_eq_true rfl), (by exact Nat.le_of_ble_eq_true rfl)⟩ (by exact Nat.le_of_ble_eq_true rfl) ⟨by omega, by omega⟩ dL_law_1324 zG_len (fun _ _ h => h.elim) (fun _ _ h => h.elim) ?_
  rintro r w ⟨d', v, rfl, rfl, hM', hv⟩
  refine zs_eq (wl' := zL_W x' d' f) (st' := [.int v, .int a]) (zL_bkM x' d d' f) rfl rfl rfl ?_
  refine zs_icmp_eq (tgt := 1403) B dL_law_1327 (by decide) (fun _ => ?_) (fun h => absurd (hv rfl).symm h)
  refine zs_widen (k := cells + 2) (n := slots + 12) (by omega) (by omega) ?_
  exact kk _ _ _ _ _ _ _ _ hC' hR' hM'
set_option maxHeartbeats 8000000 in
theorem zL_c_undo {p : Program} {l : Launch} {e : Env} {s : State} {m : MethodId} {args : Array Value} {below : List Frame} {meth : Method} {c : Code} {Q : State → Prop} {ret : Option FieldType} {nm : String} {tb : List ExceptionTableEntry} {D : va_G} {dA : Nat → ClassId} {A : Nat → Prop} {ad0 : Nat → Nat} {cells slots : Nat} (hl : l.stackTraces = false) (B : zw_B p l s m args meth c cL_law 7 ret RL nm wsL_law tb D dA A) {n9 : Nat} {xs : Nat → Int32} (hX : zL_X s A ad0 n9 xs) {x : zb_D} {T : zb_T} {d : zm_D} {U : zm_U} {t : Int32} {f : Nat → Int64} (hR : zb_R T x) (hM : zm_R U t d) (hC : zL_C T U) (j : Nat) (hj : 4 * j + 4 ≤ n9) {o5 o6 : Option Value} (hc : cells + 2 ≤ room_1.cells ∧ slots + 12 ≤ room_1.slots)
    (kk : zL_K p l e s m args below meth c Q D dA A ad0 cells slots j) : zw_k p l e room_1 s m args below meth c Q D dA A ad0 0 7 cells slots (zL_W x d f) 1332 [some (.ref 1000), some (.ref 0), some (.ref 70), some (.ref 105), some (.int (nI (4 * j))), o5, o6] [] := by
  obtain ⟨k, a, E, T', U', hk, hT, hC', hb, hm⟩ := zX_undo hl D dA hR hM hC
  refine zs_aload_n B dL_law_1332 (i := 1) rfl rfl ?_
  refine zs_aload_n B dL_law_1333 (i := 3) rfl rfl ?_
  refine zs_callSW (n := 2) (wlc := zb_W x ++ [zL_o f]) (as := [.ref 0, .ref 70]) (rest := []) zL_isB B (hL_undo hl D dA hR f k a E T' hk hT hb) gL_law_L_undo rfl ⟨by decide, by decide, by decide +kernel⟩ rfl (zL_selB x d f) zL_ndB rfl ⟨(by exact Nat.le_of_ble_eq_true rfl), (by exact Nat.le_of_ble_eq_true rfl)⟩ (by exact Nat.le_of_ble_eq_true rfl) ⟨by omega, by omega⟩ dL_law_1334 zH_len (fun _ _ h => h.elim) (fun _ _ h => h.elim) ?_
  rintro r w ⟨x', f', rfl, rfl, hR', hf'⟩
  refine zs_eq (wl' := zL_W x' d f') (st' := [.int k]) (zL_bkB x x' d f f') rfl rfl rfl ?_
  refine zs_istore B dL_law_1337 (i := 5) (by decide) rfl ?_
  refine zs_aload_n B dL_law_1339 (i := 2) rfl rfl ?_
  refine zs_callV (n := 0) (wlc := zm_W 0 d) (as := []) (rest := []) (b := 0) zm_is B hm gL_law_X5_undo rfl ⟨rfl, by decide, by decide, by decide +kernel⟩ rfl (zL_selM x' d f') zm_nd rfl rfl rfl ⟨(by exact Nat.le_of_ble_eq_true rfl), (by exact Nat.le_of_ble_eq_true rfl)⟩ (by exact Nat.le_of_ble_eq_true rfl) ⟨by omega, by omega⟩ dL_law_1340 zG_len (fun _ _ h => h.elim) (fun _ _ h => h.elim) ?_
  rintro r w ⟨d', v, rfl, rfl, hM', hv⟩
  refine zs_eq (wl' := zL_W x' d' f') (st' := [.int v]) (zL_bkM x' d d' f') rfl rfl rfl ?_
  refine zs_istore B dL_law_1343 (i := 6) (by decide) rfl ?_
  refine zs_aload_n B dL_law_1345 (i := 2) rfl rfl ?_
  refine zs_callV (n := 0) (wlc := zm_W 0 d') (as := []) (rest := []) (b := 0) zm_is B (zm_thrown hl D dA d' U' k hM') gL_law_X5_thrown rfl ⟨rfl, by decide, by decide, by decide +kernel⟩ rfl (zL_selM x' d' f') zm_nd rfl rfl rfl ⟨(by exact Nat.le_of_ble_eq_true rfl), (by exact Nat.le_of_ble_eq_true rfl)⟩ (by exact Nat.le_of_ble_eq_true rfl) ⟨by omega, by omega⟩ dL_law_1346 (by rintro v w ⟨rfl, rfl⟩; rfl) (fun _ _ h => h.elim) (fun _ _ h => h.elim) ?_
  rintro r w ⟨rfl, rfl⟩
  refine zs_eq (wl' := zL_W x' d' f') (st' := [.int k]) (zL_bkM x' d' d' f') rfl rfl rfl ?_
  refine zs_iload B dL_law_1349 (i := 5) rfl ?_
  refine zs_icmp_eq (tgt := 1356) B dL_law_1351 (by decide) (fun _ => ?_) (fun h => absurd rfl h)
  refine zs_iload B dL_law_1356 (i := 5) rfl ?_
  refine zs_if_ne (tgt := 1373) B dL_law_1358 (by decide) (fun _ => ?_) (fun hk0 => ?_)
  · refine zs_goto (tgt := 1403) B dL_law_1373 (by decide) ?_
    refine zs_widen (k := cells + 2) (n := slots + 12) (by omega) (by omega) ?_
    exact kk _ _ _ _ _ _ _ _ hC' hR' hM'
  · refine zs_aload_n B dL_law_1361 (i := 3) rfl rfl ?_
    refine zs_iconst (v := 0) B dL_law_1362 (by decide) ?_
    refine zs_lal (f := f') (n := 1) B 0 (zL_at _ _ _) (by decide) (by decide) nI_0.symm dL_law_1363 ?_
    refine zs_iload B dL_law_1364 (i := 6) rfl ?_
    refine zs_i2l B dL_law_1366 ?_
    refine zs_lcmp B dL_law_1367 ?_
    refine zs_if_eq (tgt := 1373) B dL_law_1368 (by decide) (fun _ => ?_) (fun h => absurd (zL_cmp ((hf' hk0).trans (by rw [hv hk0]))) h)
    refine zs_goto (tgt := 1403) B dL_law_1373 (by decide) ?_
    refine zs_widen (k := cells + 2) (n := slots + 12) (by omega) (by omega) ?_
    exact kk _ _ _ _ _ _ _ _ hC' hR' hM'
set_option maxHeartbeats 8000000 in
theorem zL_c_isTrue {p : Program} {l : Launch} {e : Env} {s : State} {m : MethodId} {args : Array Value} {below : List Frame} {meth : Method} {c : Code} {Q : State → Prop} {ret : Option FieldType} {nm : String} {tb : List ExceptionTableEntry} {D : va_G} {dA : Nat → ClassId} {A : Nat → Prop} {ad0 : Nat → Nat} {cells slots : Nat} (hl : l.stackTraces = false) (B : zw_B p l s m args meth c cL_law 7 ret RL nm wsL_law tb D dA A) {n9 : Nat} {xs : Nat → Int32} (hX : zL_X s A ad0 n9 xs) {x : zb_D} {T : zb_T} {d : zm_D} {U : zm_U} {t : Int32} {f : Nat → Int64} (hR : zb_R T x) (hM : zm_R U t d) (hC : zL_C T U) (j : Nat) (hj : 4 * j + 4 ≤ n9) {o5 o6 : Option Value} (hc : cells + 2 ≤ room_1.cells ∧ slots + 12 ≤ room_1.slots)
    (kk : zL_K p l e s m args below meth c Q D dA A ad0 cells slots j) : zw_k p l e room_1 s m args below meth c Q D dA A ad0 0 7 cells slots (zL_W x d f) 1376 [some (.ref 1000), some (.ref 0), some (.ref 70), some (.ref 105), some (.int (nI (4 * j))), o5, o6] [] := by
  obtain ⟨a, T', U', hC', hb, hm⟩ := zX_isTrue hl D dA hR hM hC
  refine zs_aload_n B dL_law_1376 (i := 1) rfl rfl ?_
  refine zs_callV (n := 0) (wlc := zb_W x) (as := []) (rest := []) (b := 0) zL_is B hb gL_law_X4_isTrue rfl ⟨rfl, by decide, by decide, by decide +kernel⟩ rfl (zL_sel x (zm_W 70 d ++ [zL_o f])) zL_nd rfl rfl rfl ⟨(by exact Nat.le_of_ble_eq_true rfl), (by exact Nat.le_of_ble_eq_true rfl)⟩ (by exact Nat.le_of_ble_eq_true rfl) ⟨by omega, by omega⟩ dL_law_1377 zD_len (fun _ _ h => h.elim) (fun _ _ h => h.elim) ?_
  rintro r w ⟨-, x', rfl, rfl, hR'⟩
  refine zs_eq (wl' := zL_W x' d f) (st' := [.int a]) (zL_bk x x' _) rfl rfl rfl ?_
  refine zs_aload_n B dL_law_1380 (i := 2) rfl rfl ?_
  refine zs_callV (n := 0) (wlc := zm_W 0 d) (as := []) (rest := [.int a]) (b := 0) zm_is B hm gL_law_X5_isTrue rfl ⟨rfl, by decide, by decide, by decide +kernel⟩ rfl (zL_selM x' d f) zm_nd rfl rfl rfl ⟨(by exact Nat.le_of_ble_eq_true rfl), (by exact Nat.le_of_ble_eq_true rfl)⟩ (by exact Nat.le_of_ble_eq_true rfl) ⟨by omega, by omega⟩ dL_law_1381 zG_len (fun _ _ h => h.elim) (fun _ _ h => h.elim) ?_
  rintro r w ⟨d', v, rfl, rfl, hM', hv⟩
  refine zs_eq (wl' := zL_W x' d' f) (st' := [.int v, .int a]) (zL_bkM x' d d' f) rfl rfl rfl ?_
  refine zs_icmp_eq (tgt := 1403) B dL_law_1384 (by decide) (fun _ => ?_) (fun h => absurd (hv rfl).symm h)
  refine zs_widen (k := cells + 2) (n := slots + 12) (by omega) (by omega) ?_
  exact kk _ _ _ _ _ _ _ _ hC' hR' hM'
set_option maxHeartbeats 8000000 in
theorem zL_c_checksum {p : Program} {l : Launch} {e : Env} {s : State} {m : MethodId} {args : Array Value} {below : List Frame} {meth : Method} {c : Code} {Q : State → Prop} {ret : Option FieldType} {nm : String} {tb : List ExceptionTableEntry} {D : va_G} {dA : Nat → ClassId} {A : Nat → Prop} {ad0 : Nat → Nat} {cells slots : Nat} (hl : l.stackTraces = false) (B : zw_B p l s m args meth c cL_law 7 ret RL nm wsL_law tb D dA A) {n9 : Nat} {xs : Nat → Int32} (hX : zL_X s A ad0 n9 xs) {x : zb_D} {T : zb_T} {d : zm_D} {U : zm_U} {t : Int32} {f : Nat → Int64} (hR : zb_R T x) (hM : zm_R U t d) (hC : zL_C T U) (j : Nat) (hj : 4 * j + 4 ≤ n9) {o5 o6 : Option Value} (hc : cells + 2 ≤ room_1.cells ∧ slots + 12 ≤ room_1.slots)
    (kk : zL_K p l e s m args below meth c Q D dA A ad0 cells slots j) : zw_k p l e room_1 s m args below meth c Q D dA A ad0 0 7 cells slots (zL_W x d f) 1389 [some (.ref 1000), some (.ref 0), some (.ref 70), some (.ref 105), some (.int (nI (4 * j))), o5, o6] [] := by
  refine zs_aload_n B dL_law_1389 (i := 1) rfl rfl ?_
  refine zs_callV (n := 0) (wlc := zb_W x) (as := []) (rest := []) (b := 0) zL_is B (zb_checksum hl D dA x T hR) gL_law_X4_checksum rfl ⟨rfl, by decide, by decide, by decide +kernel⟩ rfl (zL_sel x (zm_W 70 d ++ [zL_o f])) zL_nd rfl rfl rfl ⟨(by exact Nat.le_of_ble_eq_true rfl), (by exact Nat.le_of_ble_eq_true rfl)⟩ (by exact Nat.le_of_ble_eq_true rfl) ⟨by omega, by omega⟩ dL_law_1390 (by rintro v w ⟨rfl, rfl⟩; rfl) (fun _ _ h => h.elim) (fun _ _ h => h.elim) ?_
  rintro r w ⟨rfl, rfl⟩
  refine zs_eq (wl' := zL_W x d f) (st' := [.long (zb_sum T.1 T.2.1.length)]) (zL_bk x x _) rfl rfl rfl ?_
  refine zs_aload_n B dL_law_1393 (i := 2) rfl rfl ?_
  refine zs_callV (n := 0) (wlc := zm_W 0 d) (as := []) (rest := [.long (zb_sum T.1 T.2.1.length)]) (b := 0) zm_is B (zm_checksum hl D dA d U t hM hC.2.2.1) gL_law_X5_checksum rfl ⟨rfl, by decide, by decide, by decide +kernel⟩ rfl (zL_selM x d f) zm_nd rfl rfl rfl ⟨(by exact Nat.le_of_ble_eq_true rfl), (by exact Nat.le_of_ble_eq_true rfl)⟩ (by exact Nat.le_of_ble_eq_true rfl) ⟨by omega, by omega⟩ dL_law_1394 (by rintro v w ⟨d', -, rfl⟩; rw [zm_len, zm_len]) (fun _ _ h => h.elim) (fun _ _ h => h.elim) ?_
  rintro r w ⟨d', ⟨rfl, hM'⟩, rfl⟩
  refine zs_eq (wl' := zL_W x d' f) (st' := [.long (zb_sum T.1 T.2.1.length), .long (zb_sum T.1 T.2.1.length)]) (zL_bkM x d d' f) rfl (by rw [hC.1, hC.2.1]; rfl) rfl ?_
  refine zs_lcmp B dL_law_1397 ?_
  refine zs_if_eq (tgt := 1403) B dL_law_1398 (by decide) (fun _ => ?_) (fun h => absurd (zL_cmp rfl) h)
  refine zs_widen (k := cells + 2) (n := slots + 12) (by omega) (by omega) ?_
  exact kk _ _ _ _ _ _ _ _ hC hR hM'
