/-! the law: its world, its cases -/
def zL_W (x : zb_D) (d : zm_D) (f : Nat → Int64) : List zw_E := zb_W x ++ (zm_W 70 d ++ [zL_o f])
theorem zm_nd : va_nd zm_is = true := by decide +kernel
abbrev zL_isB : List Nat := List.range' 0 70 ++ [105]
theorem zL_ndB : va_nd zL_isB = true := by decide +kernel
theorem zL_ixB {k : Nat} (h : k < 70) : zw_ix zL_isB k = k := by
  show (List.range' 0 70 ++ [105]).getD k 0 = k
  rw [List.getD_eq_getElem?_getD, List.getElem?_append_left (by rw [List.length_range']; exact h), List.getElem?_range' h]
  simp
theorem zL_rnB (x : zb_D) (f : Nat → Int64) : (zb_W x ++ [zL_o f]).map (zw_rE zL_isB) = zb_W x ++ [zL_o f] := by
  rw [List.map_append, zw_rn_id (n := 70) (fun _ h => zL_ixB h) (zb_wf x (Nat.le_refl _))]
  rfl
theorem zL_at (x : zb_D) (d : zm_D) (f : Nat → Int64) : (zL_W x d f)[105]? = some (zL_o f) := by
  unfold zL_W
  rw [List.getElem?_append_right (by rw [zb_len]; decide), zb_len, List.getElem?_append_right (by rw [zm_len]; decide), zm_len]
  rfl
theorem zL_selB (x : zb_D) (d : zm_D) (f : Nat → Int64) : zw_sel (zL_W x d f) zL_isB (zb_W x ++ [zL_o f]) := by
  refine zw_sel_of (zL_rnB x f) ?_
  rw [List.map_append, List.map_append]
  refine congr (congrArg _ (zw_look1 (X1 := []) (Y := zb_W x) (X2 := zm_W 70 d ++ [zL_o f]) (by rw [zb_len]; rfl))) ?_
  show [(zL_W x d f)[105]?] = [some (zL_o f)]
  rw [zL_at]
theorem zL_bkB (x x' : zb_D) (d : zm_D) (f f' : Nat → Int64) : zw_back (zL_W x d f) zL_isB ((zb_W x' ++ [zL_o f']).map (zw_rE zL_isB)) = zL_W x' d f' := by
  rw [zL_rnB]
  refine (zw_back_app (List.range' 0 70) [105] (zb_W x') [zL_o f'] _ (by rw [zb_len]; rfl)).trans ?_
  have h2 : zw_back (zL_W x d f) [105] [zL_o f'] = zL_W x d f' := by
    have h := zw_put1 (X1 := zb_W x ++ zm_W 70 d) (Y := [zL_o f]) (Y' := [zL_o f']) (X2 := []) (is := [105]) (by rw [List.length_append, zb_len, zm_len]; rfl) rfl
    rw [List.append_assoc, List.append_assoc, List.append_nil, List.append_nil] at h
    exact h
  rw [h2]
  exact zw_put1 (X1 := []) (Y := zb_W x) (Y' := zb_W x') (X2 := zm_W 70 d ++ [zL_o f']) (by rw [zb_len]; rfl) (by rw [zb_len, zb_len])
theorem zL_selM (x : zb_D) (d : zm_D) (f : Nat → Int64) : zw_sel (zL_W x d f) zm_is (zm_W 0 d) :=
  zw_sel_of (zm_rn d) (zw_look1 (X1 := zb_W x) (Y := zm_W 70 d) (X2 := [zL_o f]) (by rw [zb_len, zm_len]))
theorem zL_bkM (x : zb_D) (d d' : zm_D) (f : Nat → Int64) : zw_back (zL_W x d f) zm_is ((zm_W 0 d').map (zw_rE zm_is)) = zL_W x d' f := by
  rw [zm_rn]
  exact zw_put1 (X1 := zb_W x) (Y := zm_W 70 d) (Y' := zm_W 70 d') (X2 := [zL_o f]) (by rw [zb_len, zm_len]) (by rw [zm_len, zm_len])
theorem zL_cmp {x y : Int64} (h : x = y) : lg_cmp x y = 0 := (lg_cmp_eq x y).mpr h
/-- how a case goes on -/
def zL_K (p : Program) (l : Launch) (e : Env) (s : State) (m : MethodId) (args : Array Value) (below : List Frame) (meth : Method) (c : Code) (Q : State → Prop) (D : va_G) (dA : Nat → ClassId) (A : Nat → Prop) (ad0 : Nat → Nat) (cells slots j : Nat) : Prop :=
  ∀ (x : zb_D) (d : zm_D) (f : Nat → Int64) (T : zb_T) (U : zm_U) (t : Int32) (o5 o6 : Option Value), zL_C T U → zb_R T x → zm_R U t d → zw_k p l e room_1 s m args below meth c Q D dA A ad0 0 7 (cells + 2) (slots + 12) (zL_W x d f) 1403 [some (.ref 1000), some (.ref 0), some (.ref 70), some (.ref 105), some (.int (nI (4 * j))), o5, o6] []
set_option maxHeartbeats 8000000 in
theorem zL_c_put {p : Program} {l : Launch} {e : Env} {s : State} {m : MethodId} {args : Array Value} {below : List Frame} {meth : Method} {c : Code} {Q : State → Prop} {ret : Option FieldType} {nm : String} {tb : List ExceptionTableEntry} {D : va_G} {dA : Nat → ClassId} {A : Nat → Prop} {ad0 : Nat → Nat} {cells slots : Nat} (hl : l.stackTraces = false) (B : zw_B p l s m args meth c cL_law 7 ret RL nm wsL_law tb D dA A) {n9 : Nat} {xs : Nat → Int32} (hX : zL_X s A ad0 n9 xs) {x : zb_D} {T : zb_T} {d : zm_D} {U : zm_U} {t : Int32} {f : Nat → Int64} (hR : zb_R T x) (hM : zm_R U t d) (hC : zL_C T U) (j : Nat) (hj : 4 * j + 4 ≤ n9) {o5 o6 : Option Value} (hc : cells + 2 ≤ room_1.cells ∧ slots + 12 ≤ room_1.slots)
    (kk : zL_K p l e s m args below meth c Q D dA A ad0 cells slots j) : zw_k p l e room_1 s m args below meth c Q D dA A ad0 0 7 cells slots (zL_W x d f) 156 [some (.ref 1000), some (.ref 0), some (.ref 70), some (.ref 105), some (.int (nI (4 * j))), o5, o6] [] := by
  obtain ⟨k, a, E, T', U', hk, hT, hC', hb, hm⟩ := zX_put hl D dA hR hM hC (xs (4 * j + 1)) (xs (4 * j + 2))
  refine zs_aload_n B dL_law_156 (i := 1) rfl rfl ?_
  refine zs_aload_n B dL_law_157 (i := 0) rfl rfl ?_
  refine zs_iload B dL_law_158 (i := 4) rfl ?_
  refine zs_iconst (v := 1) B dL_law_160 (by decide) ?_
  refine zs_iadd B dL_law_161 ?_
  refine zs_sal B hX (j := 4 * j + 1) (nI_add (4 * j) 1) (by omega) dL_law_162 ?_
  refine zs_aload_n B dL_law_163 (i := 0) rfl rfl ?_
  refine zs_iload B dL_law_164 (i := 4) rfl ?_
  refine zs_iconst (v := 2) B dL_law_166 (by decide) ?_
  refine zs_iadd B dL_law_167 ?_
  refine zs_sal B hX (j := 4 * j + 2) (nI_add (4 * j) 2) (by omega) dL_law_168 ?_
  refine zs_aload_n B dL_law_169 (i := 3) rfl rfl ?_
  refine zs_callSW (n := 4) (wlc := zb_W x ++ [zL_o f]) (as := [.ref 0, .int (xs (4 * j + 1)), .int (xs (4 * j + 2)), .ref 70]) (rest := []) zL_isB B (hL_put hl D dA hR (xs (4 * j + 1)) (xs (4 * j + 2)) f k a E T' hk hT hb) gL_law_L_put rfl ⟨by decide, by decide, by decide +kernel⟩ rfl (zL_selB x d f) zL_ndB rfl ⟨(by exact Nat.le_of_ble_eq_true rfl), (by exact Nat.le_of_ble_eq_true rfl)⟩ (by exact Nat.le_of_ble_eq_true rfl) ⟨by omega, by omega⟩ dL_law_170 zH_len (fun _ _ h => h.elim) (fun _ _ h => h.elim) ?_
  rintro r w ⟨x', f', rfl, rfl, hR', hf'⟩
  refine zs_eq (wl' := zL_W x' d f') (st' := [.int k]) (zL_bkB x x' d f f') rfl rfl rfl ?_
  refine zs_istore B dL_law_173 (i := 5) (by decide) rfl ?_
  refine zs_aload_n B dL_law_175 (i := 2) rfl rfl ?_
  refine zs_aload_n B dL_law_176 (i := 0) rfl rfl ?_
  refine zs_iload B dL_law_177 (i := 4) rfl ?_
  refine zs_iconst (v := 1) B dL_law_179 (by decide) ?_
  refine zs_iadd B dL_law_180 ?_
  refine zs_sal B hX (j := 4 * j + 1) (nI_add (4 * j) 1) (by omega) dL_law_181 ?_
  refine zs_aload_n B dL_law_182 (i := 0) rfl rfl ?_
  refine zs_iload B dL_law_183 (i := 4) rfl ?_
  refine zs_iconst (v := 2) B dL_law_185 (by decide) ?_
  refine zs_iadd B dL_law_186 ?_
  refine zs_sal B hX (j := 4 * j + 2) (nI_add (4 * j) 2) (by omega) dL_law_187 ?_
  refine zs_callV (n := 2) (wlc := zm_W 0 d) (as := [.int (xs (4 * j + 1)), .int (xs (4 * j + 2))]) (rest := []) (b := 0) zm_is B hm gL_law_X5_put rfl ⟨rfl, by decide, by decide, by decide +kernel⟩ rfl (zL_selM x' d f') zm_nd rfl rfl rfl ⟨(by exact Nat.le_of_ble_eq_true rfl), (by exact Nat.le_of_ble_eq_true rfl)⟩ (by exact Nat.le_of_ble_eq_true rfl) ⟨by omega, by omega⟩ dL_law_188 zG_len (fun _ _ h => h.elim) (fun _ _ h => h.elim) ?_
  rintro r w ⟨d', v, rfl, rfl, hM', hv⟩
  refine zs_eq (wl' := zL_W x' d' f') (st' := [.int v]) (zL_bkM x' d d' f') rfl rfl rfl ?_
  refine zs_istore B dL_law_191 (i := 6) (by decide) rfl ?_
  refine zs_aload_n B dL_law_193 (i := 2) rfl rfl ?_
  refine zs_callV (n := 0) (wlc := zm_W 0 d') (as := []) (rest := []) (b := 0) zm_is B (zm_thrown hl D dA d' U' k hM') gL_law_X5_thrown rfl ⟨rfl, by decide, by decide, by decide +kernel⟩ rfl (zL_selM x' d' f') zm_nd rfl rfl rfl ⟨(by exact Nat.le_of_ble_eq_true rfl), (by exact Nat.le_of_ble_eq_true rfl)⟩ (by exact Nat.le_of_ble_eq_true rfl) ⟨by omega, by omega⟩ dL_law_194 (by rintro v w ⟨rfl, rfl⟩; rfl) (fun _ _ h => h.elim) (fun _ _ h => h.elim) ?_
  rintro r w ⟨rfl, rfl⟩
  refine zs_eq (wl' := zL_W x' d' f') (st' := [.int k]) (zL_bkM x' d' d' f') rfl rfl rfl ?_
  refine zs_iload B dL_law_197 (i := 5) rfl ?_
  refine zs_icmp_eq (tgt := 204) B dL_law_199 (by decide) (fun _ => ?_) (fun h => absurd rfl h)
  refine zs_iload B dL_law_204 (i := 5) rfl ?_
  refine zs_if_ne (tgt := 221) B dL_law_206 (by decide) (fun _ => ?_) (fun hk0 => ?_)
  · refine zs_goto (tgt := 1403) B dL_law_221 (by decide) ?_
    refine zs_widen (k := cells + 2) (n := slots + 12) (by omega) (by omega) ?_
    exact kk _ _ _ _ _ _ _ _ hC' hR' hM'
  · refine zs_aload_n B dL_law_209 (i := 3) rfl rfl ?_
    refine zs_iconst (v := 0) B dL_law_210 (by decide) ?_
    refine zs_lal (f := f') (n := 1) B 0 (zL_at _ _ _) (by decide) (by decide) nI_0.symm dL_law_211 ?_
    refine zs_iload B dL_law_212 (i := 6) rfl ?_
    refine zs_i2l B dL_law_214 ?_
    refine zs_lcmp B dL_law_215 ?_
    refine zs_if_eq (tgt := 221) B dL_law_216 (by decide) (fun _ => ?_) (fun h => absurd (zL_cmp ((hf' hk0).trans (by rw [hv hk0]))) h)
    refine zs_goto (tgt := 1403) B dL_law_221 (by decide) ?_
    refine zs_widen (k := cells + 2) (n := slots + 12) (by omega) (by omega) ?_
    exact kk _ _ _ _ _ _ _ _ hC' hR' hM'
