/-! the law's helpers: an answer put away, or the number of the throw -/
theorem zw_Sp.mono {l : Launch} {D : va_G} {dA : Nat → ClassId} {y : MethodName} {ws : List Cond} {fr mc ms : Nat} {as : List Value} {wl : List zw_E} {post post' : Option Value → List zw_E → Prop} {px px' : String → List zw_E → Prop} (h : zw_Sp l D dA y ws fr mc ms as wl post px) (hp : ∀ v w, post v w → post' v w) (hx : ∀ E w, px E w → px' E w) : zw_Sp l D dA y ws fr mc ms as wl post' px' := by
  intro ad sz p e a1 a2 a3 s m args below b1 b2 b3 b4
  obtain ⟨n, o, c1, c2, c3, c4⟩ := h ad sz p e a1 a2 a3 s m args below b1 b2 b3 b4
  refine ⟨n, o, c1, c2, c3, ?_⟩
  rcases c4 with ⟨⟨⟨v, wl', ad', d1, d2, d3⟩, d4⟩, d5⟩ | ⟨q, e1, E, ce, L, ⟨⟨wl', ad', f1, f2⟩, f3⟩, f4⟩
  · exact Or.inl ⟨⟨⟨v, wl', ad', d1, hp _ _ d2, d3⟩, d4⟩, d5⟩
  · exact Or.inr ⟨q, e1, E, ce, L, ⟨⟨wl', ad', hx _ _ f1, f2⟩, f3⟩, f4⟩
def zL_o (f : Nat → Int64) : zw_E := .inl (2, 1, .inr (.inl f))
def zD_post (k a : Int32) (T' : zb_T) : Option Value → List zw_E → Prop := fun r w => k = 0 ∧ ∃ x', w = zb_W x' ∧ r = some (.int a) ∧ zb_R T' x'
def zD_px (k : Int32) (E : String) (x : zb_D) : String → List zw_E → Prop := fun E' w => ¬ k = 0 ∧ E' = E ∧ w = zb_W x
def zH_post (k a : Int32) (T' : zb_T) : Option Value → List zw_E → Prop := fun r w => ∃ x' f', w = zb_W x' ++ [zL_o f'] ∧ r = some (.int k) ∧ zb_R T' x' ∧ (k = 0 → f' 0 = a.toInt64)
def zG_post (k a : Int32) (U' : zm_U) : Option Value → List zw_E → Prop := fun r w => ∃ d' v, w = zm_W 0 d' ∧ r = some (.int v) ∧ zm_R U' k d' ∧ (k = 0 → v = a)
theorem zD_len {k a : Int32} {T' : zb_T} {x : zb_D} : ∀ v w, zD_post k a T' v w → w.length = (zb_W x).length := by
  rintro v w ⟨-, x', rfl, -⟩
  rw [zb_len, zb_len]
theorem zD_lenx {k : Int32} {E : String} {x : zb_D} : ∀ E' w, zD_px k E x E' w → w.length = (zb_W x).length := by
  rintro E' w ⟨-, -, rfl⟩
  rfl
theorem zH_len {k a : Int32} {T' : zb_T} {x : zb_D} {f : Nat → Int64} : ∀ v w, zH_post k a T' v w → w.length = (zb_W x ++ [zL_o f]).length := by
  rintro v w ⟨x', f', rfl, -⟩
  rw [List.length_append, List.length_append, zb_len, zb_len]
  rfl
theorem zG_len {k a : Int32} {U' : zm_U} {d : zm_D} : ∀ v w, zG_post k a U' v w → w.length = (zm_W 0 d).length := by
  rintro v w ⟨d', v', rfl, -⟩
  rw [zm_len, zm_len]
theorem zw_rE_we {n : Nat} {is : List Nat} (h : ∀ k, k < n → zw_ix is k = k) {e : zw_E} (he : zw_we n e) : zw_rE is e = e := by
  cases e with
  | inl x =>
    obtain ⟨t, m, x⟩ := x
    match x, he with
    | .inl f, _ => rfl
    | .inr (.inl f), _ => rfl
    | .inr (.inr (.inl f)), _ => rfl
    | .inr (.inr (.inr (.inl f))), _ => rfl
    | .inr (.inr (.inr (.inr a))), he =>
      show (.inl (t, m, .inr (.inr (.inr (.inr (fun j => (a j).map (zw_ix is)))))) : zw_E) = .inl (t, m, .inr (.inr (.inr (.inr a))))
      have : (fun j => (a j).map (zw_ix is)) = a := by
        funext j
        cases ha : a j with
        | none => rfl
        | some k => exact congrArg some (h k (he j k ha))
      rw [this]
  | inr q =>
    show (.inr (q.1, q.2.map (zw_cv (zw_ix is))) : zw_E) = .inr q
    have : q.2.map (zw_cv (zw_ix is)) = q.2 := by
      refine (List.map_congr_left (g := id) (fun v hv => ?_)).trans (List.map_id _)
      have h2 := List.all_eq_true.mp he v hv
      cases v <;> first | rfl | exact congrArg Value.ref (h _ (of_decide_eq_true h2))
    rw [this]
theorem zw_rn_id {n : Nat} {is : List Nat} (h : ∀ k, k < n → zw_ix is k = k) {wl : List zw_E} (hw : zw_wf n wl) : wl.map (zw_rE is) = wl :=
  (List.map_congr_left (g := id) (fun e he => zw_rE_we h (hw e he))).trans (List.map_id _)
abbrev zL_is : List Nat := List.range' 0 70
theorem zL_nd : va_nd zL_is = true := by decide +kernel
theorem zL_ix {k : Nat} (h : k < 70) : zw_ix zL_is k = k := by
  show (List.range' 0 70).getD k 0 = k
  rw [List.getD_eq_getElem?_getD, List.getElem?_range' h]
  simp
theorem zL_rn (x : zb_D) : (zb_W x).map (zw_rE zL_is) = zb_W x := zw_rn_id (n := 70) (fun _ h => zL_ix h) (zb_wf x (Nat.le_refl _))
theorem zL_sel (x : zb_D) (Y : List zw_E) : zw_sel (zb_W x ++ Y) zL_is (zb_W x) := by
  refine zw_sel_of (zL_rn x) ?_
  exact zw_look1 (X1 := []) (Y := zb_W x) (X2 := Y) (by rw [zb_len]; rfl)
theorem zL_bk (x x' : zb_D) (Y : List zw_E) : zw_back (zb_W x ++ Y) zL_is ((zb_W x').map (zw_rE zL_is)) = zb_W x' ++ Y := by
  rw [zL_rn]
  exact zw_put1 (X1 := []) (Y := zb_W x) (Y' := zb_W x') (X2 := Y) (by rw [zb_len]; rfl) (by rw [zb_len, zb_len])
theorem zL_set (x : zb_D) (e e' : zw_E) : (zb_W x ++ [e]).set 70 e' = zb_W x ++ [e'] := by
  rw [List.set_append_right _ _ (by rw [zb_len]; exact Nat.le_refl _), zb_len]
  rfl
set_option maxHeartbeats 8000000 in
theorem hL_put {l : Launch} (hl : l.stackTraces = false) (D : va_G) (dA : Nat → ClassId) {x : zb_D} {T : zb_T} (hR : zb_R T x) (p1 p2 : Int32) (f : Nat → Int64) (k a : Int32) (E : String) (T' : zb_T) (hk : k = 0 ∨ (k = 1 ∧ E = zE_a)) (hT : ¬ k = 0 → T' = T) (hM : zw_Sp l D dA yX4_put wsX4_put 7 1 6 [.ref 0, .int p1, .int p2] (zb_W x) (zD_post k a T') (zD_px k E x)) :
    zw_Sp l D dA yL_put wsL_put 8 1 6 [.ref 0, .int p1, .int p2, .ref 70] (zb_W x ++ [zL_o f]) (zH_post k a T') (fun _ _ => False) := by
  refine zw_startW hl (by decide) rfl rfl (Nat.le_of_ble_eq_true rfl) ?_
  intro pr e s m args below meth c ad A hA B
  refine zs_aload_n B dL_put_0 (i := 3) rfl rfl ?_
  refine zs_iconst (v := 0) B dL_put_1 (by decide) ?_
  refine zs_aload_n B dL_put_2 (i := 0) rfl rfl ?_
  refine zs_iload_n B dL_put_3 (i := 1) rfl rfl ?_
  refine zs_iload_n B dL_put_4 (i := 2) rfl rfl ?_
  refine zs_callV (n := 2) (wlc := zb_W x) (as := [.int p1, .int p2]) (rest := [.int 0, .ref 70]) (b := 0) zL_is B hM gL_put_X4_put rfl ⟨rfl, by decide, by decide, by decide +kernel⟩ rfl (zL_sel x [zL_o f]) zL_nd rfl rfl rfl ⟨(by exact Nat.le_of_ble_eq_true rfl), (by exact Nat.le_of_ble_eq_true rfl)⟩ (by exact Nat.le_of_ble_eq_true rfl) ⟨(by exact Nat.le_of_ble_eq_true rfl), (by exact Nat.le_of_ble_eq_true rfl)⟩ dL_put_5 zD_len zD_lenx ?_ ?_
  · rintro E9 w ⟨hk0, rfl, rfl⟩
    rcases hk with hk | ⟨rfl, rfl⟩
    · exact absurd hk hk0
    · refine zs_xcatchW (i := 4) B [] _ [] rfl (by intro z hz; cases hz) rfl (by decide) (by decide +kernel) (by decide) dL_put_13 (by decide) rfl ?_
      refine zs_eq (wl' := zb_W x ++ [zL_o f]) (zL_bk x x _) rfl rfl rfl ?_
      refine zs_iconst (v := 1) B dL_put_15 (by decide) ?_
      exact zs_zret hA B rfl rfl (by exact Nat.le_of_ble_eq_true rfl) (by exact Nat.le_of_ble_eq_true rfl) ⟨x, f, rfl, rfl, by rw [hT (by decide)]; exact hR, fun h => absurd h (by decide)⟩ dL_put_16
  · rintro r w ⟨hk0, x', rfl, rfl, hR'⟩
    subst hk0
    refine zs_eq (wl' := zb_W x' ++ [zL_o f]) (st' := [.int a, .int 0, .ref 70]) (zL_bk x x' _) rfl rfl rfl ?_
    refine zs_i2l B dL_put_8 ?_
    refine zs_las (f := f) (n := 1) B 0 rfl (by decide) (by decide) nI_0.symm dL_put_9 ?_
    refine zs_goto (tgt := 17) B dL_put_10 (by decide) ?_
    refine zs_eq (wl' := zb_W x' ++ [zL_o (vp_updL f 0 a.toInt64)]) (zL_set x' _ _) rfl rfl rfl ?_
    refine zs_iconst (v := 0) B dL_put_17 (by decide) ?_
    exact zs_zret hA B rfl rfl (by exact Nat.le_of_ble_eq_true rfl) (by exact Nat.le_of_ble_eq_true rfl) ⟨x', _, rfl, rfl, hR', fun _ => rfl⟩ dL_put_18
set_option maxHeartbeats 8000000 in
theorem hL_putIfAbsent {l : Launch} (hl : l.stackTraces = false) (D : va_G) (dA : Nat → ClassId) {x : zb_D} {T : zb_T} (hR : zb_R T x) (p1 p2 : Int32) (f : Nat → Int64) (k a : Int32) (E : String) (T' : zb_T) (hk : k = 0 ∨ (k = 1 ∧ E = zE_a)) (hT : ¬ k = 0 → T' = T) (ha : a = 0 ∨ a = 1) (hM : zw_Sp l D dA yX4_putIfAbsent wsX4_putIfAbsent 7 1 6 [.ref 0, .int p1, .int p2] (zb_W x) (zD_post k a T') (zD_px k E x)) :
    zw_Sp l D dA yL_putIfAbsent wsL_putIfAbsent 8 1 6 [.ref 0, .int p1, .int p2, .ref 70] (zb_W x ++ [zL_o f]) (zH_post k a T') (fun _ _ => False) := by
  refine zw_startW hl (by decide) rfl rfl (Nat.le_of_ble_eq_true rfl) ?_
  intro pr e s m args below meth c ad A hA B
  refine zs_aload_n B dL_putIfAbsent_0 (i := 3) rfl rfl ?_
  refine zs_iconst (v := 0) B dL_putIfAbsent_1 (by decide) ?_
  refine zs_aload_n B dL_putIfAbsent_2 (i := 0) rfl rfl ?_
  refine zs_iload_n B dL_putIfAbsent_3 (i := 1) rfl rfl ?_
  refine zs_iload_n B dL_putIfAbsent_4 (i := 2) rfl rfl ?_
  refine zs_callV (n := 2) (wlc := zb_W x) (as := [.int p1, .int p2]) (rest := [.int 0, .ref 70]) (b := 0) zL_is B hM gL_putIfAbsent_X4_putIfAbsent rfl ⟨rfl, by decide, by decide, by decide +kernel⟩ rfl (zL_sel x [zL_o f]) zL_nd rfl rfl rfl ⟨(by exact Nat.le_of_ble_eq_true rfl), (by exact Nat.le_of_ble_eq_true rfl)⟩ (by exact Nat.le_of_ble_eq_true rfl) ⟨(by exact Nat.le_of_ble_eq_true rfl), (by exact Nat.le_of_ble_eq_true rfl)⟩ dL_putIfAbsent_5 zD_len zD_lenx ?_ ?_
  · rintro E9 w ⟨hk0, rfl, rfl⟩
    rcases hk with hk | ⟨rfl, rfl⟩
    · exact absurd hk hk0
    · refine zs_xcatchW (i := 4) B [] _ [] rfl (by intro z hz; cases hz) rfl (by decide) (by decide +kernel) (by decide) dL_putIfAbsent_20 (by decide) rfl ?_
      refine zs_eq (wl' := zb_W x ++ [zL_o f]) (zL_bk x x _) rfl rfl rfl ?_
      refine zs_iconst (v := 1) B dL_putIfAbsent_22 (by decide) ?_
      exact zs_zret hA B rfl rfl (by exact Nat.le_of_ble_eq_true rfl) (by exact Nat.le_of_ble_eq_true rfl) ⟨x, f, rfl, rfl, by rw [hT (by decide)]; exact hR, fun h => absurd h (by decide)⟩ dL_putIfAbsent_23
  · rintro r w ⟨hk0, x', rfl, rfl, hR'⟩
    subst hk0
    refine zs_eq (wl' := zb_W x' ++ [zL_o f]) (st' := [.int a, .int 0, .ref 70]) (zL_bk x x' _) rfl rfl rfl ?_
    rcases ha with rfl | rfl
    · refine zs_if_eq (tgt := 15) B dL_putIfAbsent_8 (by decide) (fun h => ?_) (fun h => absurd rfl h)
      refine zs_lconst (v := 0) B dL_putIfAbsent_15 (by decide) ?_
      refine zs_las (f := f) (n := 1) B 0 rfl (by decide) (by decide) nI_0.symm dL_putIfAbsent_16 ?_
      refine zs_goto (tgt := 24) B dL_putIfAbsent_17 (by decide) ?_
      refine zs_eq (wl' := zb_W x' ++ [zL_o (vp_updL f 0 (0 : Int32).toInt64)]) (zL_set x' _ _) rfl rfl rfl ?_
      refine zs_iconst (v := 0) B dL_putIfAbsent_24 (by decide) ?_
      exact zs_zret hA B rfl rfl (by exact Nat.le_of_ble_eq_true rfl) (by exact Nat.le_of_ble_eq_true rfl) ⟨x', _, rfl, rfl, hR', fun _ => rfl⟩ dL_putIfAbsent_25
    · refine zs_if_eq (tgt := 15) B dL_putIfAbsent_8 (by decide) (fun h => absurd h (by decide)) (fun h => ?_)
      refine zs_lconst (v := 1) B dL_putIfAbsent_11 (by decide) ?_
      refine zs_goto (tgt := 16) B dL_putIfAbsent_12 (by decide) ?_
      refine zs_las (f := f) (n := 1) B 0 rfl (by decide) (by decide) nI_0.symm dL_putIfAbsent_16 ?_
      refine zs_goto (tgt := 24) B dL_putIfAbsent_17 (by decide) ?_
      refine zs_eq (wl' := zb_W x' ++ [zL_o (vp_updL f 0 (1 : Int32).toInt64)]) (zL_set x' _ _) rfl rfl rfl ?_
      refine zs_iconst (v := 0) B dL_putIfAbsent_24 (by decide) ?_
      exact zs_zret hA B rfl rfl (by exact Nat.le_of_ble_eq_true rfl) (by exact Nat.le_of_ble_eq_true rfl) ⟨x', _, rfl, rfl, hR', fun _ => rfl⟩ dL_putIfAbsent_25
set_option maxHeartbeats 8000000 in
theorem hL_get {l : Launch} (hl : l.stackTraces = false) (D : va_G) (dA : Nat → ClassId) {x : zb_D} {T : zb_T} (hR : zb_R T x) (p1 : Int32) (f : Nat → Int64) (k a : Int32) (E : String) (T' : zb_T) (hk : k = 0 ∨ (k = 1 ∧ E = zE_n)) (hT : ¬ k = 0 → T' = T) (hM : zw_Sp l D dA yX4_get wsX4_get 7 1 6 [.ref 0, .int p1] (zb_W x) (zD_post k a T') (zD_px k E x)) :
    zw_Sp l D dA yL_get wsL_get 8 1 6 [.ref 0, .int p1, .ref 70] (zb_W x ++ [zL_o f]) (zH_post k a T') (fun _ _ => False) := by
  refine zw_startW hl (by decide) rfl rfl (Nat.le_of_ble_eq_true rfl) ?_
  intro pr e s m args below meth c ad A hA B
  refine zs_aload_n B dL_get_0 (i := 2) rfl rfl ?_
  refine zs_iconst (v := 0) B dL_get_1 (by decide) ?_
  refine zs_aload_n B dL_get_2 (i := 0) rfl rfl ?_
  refine zs_iload_n B dL_get_3 (i := 1) rfl rfl ?_
  refine zs_callV (n := 1) (wlc := zb_W x) (as := [.int p1]) (rest := [.int 0, .ref 70]) (b := 0) zL_is B hM gL_get_X4_get rfl ⟨rfl, by decide, by decide, by decide +kernel⟩ rfl (zL_sel x [zL_o f]) zL_nd rfl rfl rfl ⟨(by exact Nat.le_of_ble_eq_true rfl), (by exact Nat.le_of_ble_eq_true rfl)⟩ (by exact Nat.le_of_ble_eq_true rfl) ⟨(by exact Nat.le_of_ble_eq_true rfl), (by exact Nat.le_of_ble_eq_true rfl)⟩ dL_get_4 zD_len zD_lenx ?_ ?_
  · rintro E9 w ⟨hk0, rfl, rfl⟩
    rcases hk with hk | ⟨rfl, rfl⟩
    · exact absurd hk hk0
    · refine zs_xcatch (i := 3) B [] _ [] rfl (by intro z hz; cases hz) rfl (by decide) (by decide +kernel) (by decide) dL_get_12 rfl (by decide) rfl ?_
      refine zs_eq (wl' := zb_W x ++ [zL_o f]) (zL_bk x x _) rfl rfl rfl ?_
      refine zs_iconst (v := 1) B dL_get_13 (by decide) ?_
      exact zs_zret hA B rfl rfl (by exact Nat.le_of_ble_eq_true rfl) (by exact Nat.le_of_ble_eq_true rfl) ⟨x, f, rfl, rfl, by rw [hT (by decide)]; exact hR, fun h => absurd h (by decide)⟩ dL_get_14
  · rintro r w ⟨hk0, x', rfl, rfl, hR'⟩
    subst hk0
    refine zs_eq (wl' := zb_W x' ++ [zL_o f]) (st' := [.int a, .int 0, .ref 70]) (zL_bk x x' _) rfl rfl rfl ?_
    refine zs_i2l B dL_get_7 ?_
    refine zs_las (f := f) (n := 1) B 0 rfl (by decide) (by decide) nI_0.symm dL_get_8 ?_
    refine zs_goto (tgt := 15) B dL_get_9 (by decide) ?_
    refine zs_eq (wl' := zb_W x' ++ [zL_o (vp_updL f 0 a.toInt64)]) (zL_set x' _ _) rfl rfl rfl ?_
    refine zs_iconst (v := 0) B dL_get_15 (by decide) ?_
    exact zs_zret hA B rfl rfl (by exact Nat.le_of_ble_eq_true rfl) (by exact Nat.le_of_ble_eq_true rfl) ⟨x', _, rfl, rfl, hR', fun _ => rfl⟩ dL_get_16
set_option maxHeartbeats 8000000 in
theorem hL_look {l : Launch} (hl : l.stackTraces = false) (D : va_G) (dA : Nat → ClassId) {x : zb_D} {T : zb_T} (hR : zb_R T x) (p1 : Int32) (f : Nat → Int64) (k a : Int32) (E : String) (T' : zb_T) (hk : k = 0 ∨ (k = 1 ∧ E = zE_n)) (hT : ¬ k = 0 → T' = T) (hM : zw_Sp l D dA yX4_look wsX4_look 7 1 6 [.ref 0, .int p1] (zb_W x) (zD_post k a T') (zD_px k E x)) :
    zw_Sp l D dA yL_look wsL_look 8 1 6 [.ref 0, .int p1, .ref 70] (zb_W x ++ [zL_o f]) (zH_post k a T') (fun _ _ => False) := by
  refine zw_startW hl (by decide) rfl rfl (Nat.le_of_ble_eq_true rfl) ?_
  intro pr e s m args below meth c ad A hA B
  refine zs_aload_n B dL_look_0 (i := 2) rfl rfl ?_
  refine zs_iconst (v := 0) B dL_look_1 (by decide) ?_
  refine zs_aload_n B dL_look_2 (i := 0) rfl rfl ?_
  refine zs_iload_n B dL_look_3 (i := 1) rfl rfl ?_
  refine zs_callV (n := 1) (wlc := zb_W x) (as := [.int p1]) (rest := [.int 0, .ref 70]) (b := 0) zL_is B hM gL_look_X4_look rfl ⟨rfl, by decide, by decide, by decide +kernel⟩ rfl (zL_sel x [zL_o f]) zL_nd rfl rfl rfl ⟨(by exact Nat.le_of_ble_eq_true rfl), (by exact Nat.le_of_ble_eq_true rfl)⟩ (by exact Nat.le_of_ble_eq_true rfl) ⟨(by exact Nat.le_of_ble_eq_true rfl), (by exact Nat.le_of_ble_eq_true rfl)⟩ dL_look_4 zD_len zD_lenx ?_ ?_
  · rintro E9 w ⟨hk0, rfl, rfl⟩
    rcases hk with hk | ⟨rfl, rfl⟩
    · exact absurd hk hk0
    · refine zs_xcatch (i := 3) B [] _ [] rfl (by intro z hz; cases hz) rfl (by decide) (by decide +kernel) (by decide) dL_look_12 rfl (by decide) rfl ?_
      refine zs_eq (wl' := zb_W x ++ [zL_o f]) (zL_bk x x _) rfl rfl rfl ?_
      refine zs_iconst (v := 1) B dL_look_13 (by decide) ?_
      exact zs_zret hA B rfl rfl (by exact Nat.le_of_ble_eq_true rfl) (by exact Nat.le_of_ble_eq_true rfl) ⟨x, f, rfl, rfl, by rw [hT (by decide)]; exact hR, fun h => absurd h (by decide)⟩ dL_look_14
  · rintro r w ⟨hk0, x', rfl, rfl, hR'⟩
    subst hk0
    refine zs_eq (wl' := zb_W x' ++ [zL_o f]) (st' := [.int a, .int 0, .ref 70]) (zL_bk x x' _) rfl rfl rfl ?_
    refine zs_i2l B dL_look_7 ?_
    refine zs_las (f := f) (n := 1) B 0 rfl (by decide) (by decide) nI_0.symm dL_look_8 ?_
    refine zs_goto (tgt := 15) B dL_look_9 (by decide) ?_
    refine zs_eq (wl' := zb_W x' ++ [zL_o (vp_updL f 0 a.toInt64)]) (zL_set x' _ _) rfl rfl rfl ?_
    refine zs_iconst (v := 0) B dL_look_15 (by decide) ?_
    exact zs_zret hA B rfl rfl (by exact Nat.le_of_ble_eq_true rfl) (by exact Nat.le_of_ble_eq_true rfl) ⟨x', _, rfl, rfl, hR', fun _ => rfl⟩ dL_look_16
set_option maxHeartbeats 8000000 in
theorem hL_remove {l : Launch} (hl : l.stackTraces = false) (D : va_G) (dA : Nat → ClassId) {x : zb_D} {T : zb_T} (hR : zb_R T x) (p1 : Int32) (f : Nat → Int64) (k a : Int32) (E : String) (T' : zb_T) (hk : k = 0 ∨ (k = 1 ∧ E = zE_n)) (hT : ¬ k = 0 → T' = T) (hM : zw_Sp l D dA yX4_remove wsX4_remove 7 1 6 [.ref 0, .int p1] (zb_W x) (zD_post k a T') (zD_px k E x)) :
    zw_Sp l D dA yL_remove wsL_remove 8 1 6 [.ref 0, .int p1, .ref 70] (zb_W x ++ [zL_o f]) (zH_post k a T') (fun _ _ => False) := by
  refine zw_startW hl (by decide) rfl rfl (Nat.le_of_ble_eq_true rfl) ?_
  intro pr e s m args below meth c ad A hA B
  refine zs_aload_n B dL_remove_0 (i := 2) rfl rfl ?_
  refine zs_iconst (v := 0) B dL_remove_1 (by decide) ?_
  refine zs_aload_n B dL_remove_2 (i := 0) rfl rfl ?_
  refine zs_iload_n B dL_remove_3 (i := 1) rfl rfl ?_
  refine zs_callV (n := 1) (wlc := zb_W x) (as := [.int p1]) (rest := [.int 0, .ref 70]) (b := 0) zL_is B hM gL_remove_X4_remove rfl ⟨rfl, by decide, by decide, by decide +kernel⟩ rfl (zL_sel x [zL_o f]) zL_nd rfl rfl rfl ⟨(by exact Nat.le_of_ble_eq_true rfl), (by exact Nat.le_of_ble_eq_true rfl)⟩ (by exact Nat.le_of_ble_eq_true rfl) ⟨(by exact Nat.le_of_ble_eq_true rfl), (by exact Nat.le_of_ble_eq_true rfl)⟩ dL_remove_4 zD_len zD_lenx ?_ ?_
  · rintro E9 w ⟨hk0, rfl, rfl⟩
    rcases hk with hk | ⟨rfl, rfl⟩
    · exact absurd hk hk0
    · refine zs_xcatch (i := 3) B [] _ [] rfl (by intro z hz; cases hz) rfl (by decide) (by decide +kernel) (by decide) dL_remove_12 rfl (by decide) rfl ?_
      refine zs_eq (wl' := zb_W x ++ [zL_o f]) (zL_bk x x _) rfl rfl rfl ?_
      refine zs_iconst (v := 1) B dL_remove_13 (by decide) ?_
      exact zs_zret hA B rfl rfl (by exact Nat.le_of_ble_eq_true rfl) (by exact Nat.le_of_ble_eq_true rfl) ⟨x, f, rfl, rfl, by rw [hT (by decide)]; exact hR, fun h => absurd h (by decide)⟩ dL_remove_14
  · rintro r w ⟨hk0, x', rfl, rfl, hR'⟩
    subst hk0
    refine zs_eq (wl' := zb_W x' ++ [zL_o f]) (st' := [.int a, .int 0, .ref 70]) (zL_bk x x' _) rfl rfl rfl ?_
    refine zs_i2l B dL_remove_7 ?_
    refine zs_las (f := f) (n := 1) B 0 rfl (by decide) (by decide) nI_0.symm dL_remove_8 ?_
    refine zs_goto (tgt := 15) B dL_remove_9 (by decide) ?_
    refine zs_eq (wl' := zb_W x' ++ [zL_o (vp_updL f 0 a.toInt64)]) (zL_set x' _ _) rfl rfl rfl ?_
    refine zs_iconst (v := 0) B dL_remove_15 (by decide) ?_
    exact zs_zret hA B rfl rfl (by exact Nat.le_of_ble_eq_true rfl) (by exact Nat.le_of_ble_eq_true rfl) ⟨x', _, rfl, rfl, hR', fun _ => rfl⟩ dL_remove_16
set_option maxHeartbeats 8000000 in
theorem hL_limit {l : Launch} (hl : l.stackTraces = false) (D : va_G) (dA : Nat → ClassId) {x : zb_D} {T : zb_T} (hR : zb_R T x) (p1 : Int32) (f : Nat → Int64) (k a : Int32) (E : String) (T' : zb_T) (hk : k = 0 ∨ (k = 1 ∧ E = zE_a)) (hT : ¬ k = 0 → T' = T) (hM : zw_Sp l D dA yX4_limit wsX4_limit 7 1 6 [.ref 0, .int p1] (zb_W x) (zD_post k a T') (zD_px k E x)) :
    zw_Sp l D dA yL_limit wsL_limit 8 1 6 [.ref 0, .int p1, .ref 70] (zb_W x ++ [zL_o f]) (zH_post k a T') (fun _ _ => False) := by
  refine zw_startW hl (by decide) rfl rfl (Nat.le_of_ble_eq_true rfl) ?_
  intro pr e s m args below meth c ad A hA B
  refine zs_aload_n B dL_limit_0 (i := 2) rfl rfl ?_
  refine zs_iconst (v := 0) B dL_limit_1 (by decide) ?_
  refine zs_aload_n B dL_limit_2 (i := 0) rfl rfl ?_
  refine zs_iload_n B dL_limit_3 (i := 1) rfl rfl ?_
  refine zs_callV (n := 1) (wlc := zb_W x) (as := [.int p1]) (rest := [.int 0, .ref 70]) (b := 0) zL_is B hM gL_limit_X4_limit rfl ⟨rfl, by decide, by decide, by decide +kernel⟩ rfl (zL_sel x [zL_o f]) zL_nd rfl rfl rfl ⟨(by exact Nat.le_of_ble_eq_true rfl), (by exact Nat.le_of_ble_eq_true rfl)⟩ (by exact Nat.le_of_ble_eq_true rfl) ⟨(by exact Nat.le_of_ble_eq_true rfl), (by exact Nat.le_of_ble_eq_true rfl)⟩ dL_limit_4 zD_len zD_lenx ?_ ?_
  · rintro E9 w ⟨hk0, rfl, rfl⟩
    rcases hk with hk | ⟨rfl, rfl⟩
    · exact absurd hk hk0
    · refine zs_xcatch (i := 3) B [] _ [] rfl (by intro z hz; cases hz) rfl (by decide) (by decide +kernel) (by decide) dL_limit_12 rfl (by decide) rfl ?_
      refine zs_eq (wl' := zb_W x ++ [zL_o f]) (zL_bk x x _) rfl rfl rfl ?_
      refine zs_iconst (v := 1) B dL_limit_13 (by decide) ?_
      exact zs_zret hA B rfl rfl (by exact Nat.le_of_ble_eq_true rfl) (by exact Nat.le_of_ble_eq_true rfl) ⟨x, f, rfl, rfl, by rw [hT (by decide)]; exact hR, fun h => absurd h (by decide)⟩ dL_limit_14
  · rintro r w ⟨hk0, x', rfl, rfl, hR'⟩
    subst hk0
    refine zs_eq (wl' := zb_W x' ++ [zL_o f]) (st' := [.int a, .int 0, .ref 70]) (zL_bk x x' _) rfl rfl rfl ?_
    refine zs_i2l B dL_limit_7 ?_
    refine zs_las (f := f) (n := 1) B 0 rfl (by decide) (by decide) nI_0.symm dL_limit_8 ?_
    refine zs_goto (tgt := 15) B dL_limit_9 (by decide) ?_
    refine zs_eq (wl' := zb_W x' ++ [zL_o (vp_updL f 0 a.toInt64)]) (zL_set x' _ _) rfl rfl rfl ?_
    refine zs_iconst (v := 0) B dL_limit_15 (by decide) ?_
    exact zs_zret hA B rfl rfl (by exact Nat.le_of_ble_eq_true rfl) (by exact Nat.le_of_ble_eq_true rfl) ⟨x', _, rfl, rfl, hR', fun _ => rfl⟩ dL_limit_16
set_option maxHeartbeats 8000000 in
theorem hL_way {l : Launch} (hl : l.stackTraces = false) (D : va_G) (dA : Nat → ClassId) {x : zb_D} {T : zb_T} (hR : zb_R T x) (p1 : Int32) (f : Nat → Int64) (k a : Int32) (E : String) (T' : zb_T) (hk : k = 0 ∨ (k = 1 ∧ E = zE_a)) (hT : ¬ k = 0 → T' = T) (hM : zw_Sp l D dA yX4_way wsX4_way 7 1 6 [.ref 0, .int p1] (zb_W x) (zD_post k a T') (zD_px k E x)) :
    zw_Sp l D dA yL_way wsL_way 8 1 6 [.ref 0, .int p1, .ref 70] (zb_W x ++ [zL_o f]) (zH_post k a T') (fun _ _ => False) := by
  refine zw_startW hl (by decide) rfl rfl (Nat.le_of_ble_eq_true rfl) ?_
  intro pr e s m args below meth c ad A hA B
  refine zs_aload_n B dL_way_0 (i := 2) rfl rfl ?_
  refine zs_iconst (v := 0) B dL_way_1 (by decide) ?_
  refine zs_aload_n B dL_way_2 (i := 0) rfl rfl ?_
  refine zs_iload_n B dL_way_3 (i := 1) rfl rfl ?_
  refine zs_callV (n := 1) (wlc := zb_W x) (as := [.int p1]) (rest := [.int 0, .ref 70]) (b := 0) zL_is B hM gL_way_X4_way rfl ⟨rfl, by decide, by decide, by decide +kernel⟩ rfl (zL_sel x [zL_o f]) zL_nd rfl rfl rfl ⟨(by exact Nat.le_of_ble_eq_true rfl), (by exact Nat.le_of_ble_eq_true rfl)⟩ (by exact Nat.le_of_ble_eq_true rfl) ⟨(by exact Nat.le_of_ble_eq_true rfl), (by exact Nat.le_of_ble_eq_true rfl)⟩ dL_way_4 zD_len zD_lenx ?_ ?_
  · rintro E9 w ⟨hk0, rfl, rfl⟩
    rcases hk with hk | ⟨rfl, rfl⟩
    · exact absurd hk hk0
    · refine zs_xcatch (i := 3) B [] _ [] rfl (by intro z hz; cases hz) rfl (by decide) (by decide +kernel) (by decide) dL_way_12 rfl (by decide) rfl ?_
      refine zs_eq (wl' := zb_W x ++ [zL_o f]) (zL_bk x x _) rfl rfl rfl ?_
      refine zs_iconst (v := 1) B dL_way_13 (by decide) ?_
      exact zs_zret hA B rfl rfl (by exact Nat.le_of_ble_eq_true rfl) (by exact Nat.le_of_ble_eq_true rfl) ⟨x, f, rfl, rfl, by rw [hT (by decide)]; exact hR, fun h => absurd h (by decide)⟩ dL_way_14
  · rintro r w ⟨hk0, x', rfl, rfl, hR'⟩
    subst hk0
    refine zs_eq (wl' := zb_W x' ++ [zL_o f]) (st' := [.int a, .int 0, .ref 70]) (zL_bk x x' _) rfl rfl rfl ?_
    refine zs_i2l B dL_way_7 ?_
    refine zs_las (f := f) (n := 1) B 0 rfl (by decide) (by decide) nI_0.symm dL_way_8 ?_
    refine zs_goto (tgt := 15) B dL_way_9 (by decide) ?_
    refine zs_eq (wl' := zb_W x' ++ [zL_o (vp_updL f 0 a.toInt64)]) (zL_set x' _ _) rfl rfl rfl ?_
    refine zs_iconst (v := 0) B dL_way_15 (by decide) ?_
    exact zs_zret hA B rfl rfl (by exact Nat.le_of_ble_eq_true rfl) (by exact Nat.le_of_ble_eq_true rfl) ⟨x', _, rfl, rfl, hR', fun _ => rfl⟩ dL_way_16
set_option maxHeartbeats 8000000 in
theorem hL_keyAt {l : Launch} (hl : l.stackTraces = false) (D : va_G) (dA : Nat → ClassId) {x : zb_D} {T : zb_T} (hR : zb_R T x) (p1 p2 : Int32) (f : Nat → Int64) (k a : Int32) (E : String) (T' : zb_T) (hk : k = 0 ∨ (k = 1 ∧ E = zE_a) ∨ (k = 2 ∧ E = zE_i)) (hT : ¬ k = 0 → T' = T) (hM : zw_Sp l D dA yX4_keyAt wsX4_keyAt 7 2 12 [.ref 0, .int p1, .int p2] (zb_W x) (zD_post k a T') (zD_px k E x)) :
    zw_Sp l D dA yL_keyAt wsL_keyAt 8 2 12 [.ref 0, .int p1, .int p2, .ref 70] (zb_W x ++ [zL_o f]) (zH_post k a T') (fun _ _ => False) := by
  refine zw_startW hl (by decide) rfl rfl (Nat.le_of_ble_eq_true rfl) ?_
  intro pr e s m args below meth c ad A hA B
  refine zs_aload_n B dL_keyAt_0 (i := 3) rfl rfl ?_
  refine zs_iconst (v := 0) B dL_keyAt_1 (by decide) ?_
  refine zs_aload_n B dL_keyAt_2 (i := 0) rfl rfl ?_
  refine zs_iload_n B dL_keyAt_3 (i := 1) rfl rfl ?_
  refine zs_iload_n B dL_keyAt_4 (i := 2) rfl rfl ?_
  refine zs_callV (n := 2) (wlc := zb_W x) (as := [.int p1, .int p2]) (rest := [.int 0, .ref 70]) (b := 0) zL_is B hM gL_keyAt_X4_keyAt rfl ⟨rfl, by decide, by decide, by decide +kernel⟩ rfl (zL_sel x [zL_o f]) zL_nd rfl rfl rfl ⟨(by exact Nat.le_of_ble_eq_true rfl), (by exact Nat.le_of_ble_eq_true rfl)⟩ (by exact Nat.le_of_ble_eq_true rfl) ⟨(by exact Nat.le_of_ble_eq_true rfl), (by exact Nat.le_of_ble_eq_true rfl)⟩ dL_keyAt_5 zD_len zD_lenx ?_ ?_
  · rintro E9 w ⟨hk0, rfl, rfl⟩
    rcases hk with hk | ⟨rfl, rfl⟩ | ⟨rfl, rfl⟩
    · exact absurd hk hk0
    · refine zs_xcatchW (i := 4) B [] _ [_] rfl (by intro z hz; cases hz) rfl (by decide) (by decide +kernel) (by decide) dL_keyAt_13 (by decide) rfl ?_
      refine zs_eq (wl' := zb_W x ++ [zL_o f]) (zL_bk x x _) rfl rfl rfl ?_
      refine zs_iconst (v := 1) B dL_keyAt_15 (by decide) ?_
      exact zs_zret hA B rfl rfl (by exact Nat.le_of_ble_eq_true rfl) (by exact Nat.le_of_ble_eq_true rfl) ⟨x, f, rfl, rfl, by rw [hT (by decide)]; exact hR, fun h => absurd h (by decide)⟩ dL_keyAt_16
    · refine zs_xcatchW (i := 4) B [_] _ [] rfl (by intro z hz; cases List.mem_singleton.mp hz; exact ⟨by decide, zE_a, by decide +kernel, by decide⟩) rfl (by decide) (by decide +kernel) (by decide) dL_keyAt_17 (by decide) rfl ?_
      refine zs_eq (wl' := zb_W x ++ [zL_o f]) (zL_bk x x _) rfl rfl rfl ?_
      refine zs_iconst (v := 2) B dL_keyAt_19 (by decide) ?_
      exact zs_zret hA B rfl rfl (by exact Nat.le_of_ble_eq_true rfl) (by exact Nat.le_of_ble_eq_true rfl) ⟨x, f, rfl, rfl, by rw [hT (by decide)]; exact hR, fun h => absurd h (by decide)⟩ dL_keyAt_20
  · rintro r w ⟨hk0, x', rfl, rfl, hR'⟩
    subst hk0
    refine zs_eq (wl' := zb_W x' ++ [zL_o f]) (st' := [.int a, .int 0, .ref 70]) (zL_bk x x' _) rfl rfl rfl ?_
    refine zs_i2l B dL_keyAt_8 ?_
    refine zs_las (f := f) (n := 1) B 0 rfl (by decide) (by decide) nI_0.symm dL_keyAt_9 ?_
    refine zs_goto (tgt := 21) B dL_keyAt_10 (by decide) ?_
    refine zs_eq (wl' := zb_W x' ++ [zL_o (vp_updL f 0 a.toInt64)]) (zL_set x' _ _) rfl rfl rfl ?_
    refine zs_iconst (v := 0) B dL_keyAt_21 (by decide) ?_
    exact zs_zret hA B rfl rfl (by exact Nat.le_of_ble_eq_true rfl) (by exact Nat.le_of_ble_eq_true rfl) ⟨x', _, rfl, rfl, hR', fun _ => rfl⟩ dL_keyAt_22
set_option maxHeartbeats 8000000 in
theorem hL_placeOf {l : Launch} (hl : l.stackTraces = false) (D : va_G) (dA : Nat → ClassId) {x : zb_D} {T : zb_T} (hR : zb_R T x) (p1 p2 : Int32) (f : Nat → Int64) (k a : Int32) (E : String) (T' : zb_T) (hk : k = 0 ∨ (k = 1 ∧ E = zE_a) ∨ (k = 2 ∧ E = zE_n)) (hT : ¬ k = 0 → T' = T) (hM : zw_Sp l D dA yX4_placeOf wsX4_placeOf 7 2 12 [.ref 0, .int p1, .int p2] (zb_W x) (zD_post k a T') (zD_px k E x)) :
    zw_Sp l D dA yL_placeOf wsL_placeOf 8 2 12 [.ref 0, .int p1, .int p2, .ref 70] (zb_W x ++ [zL_o f]) (zH_post k a T') (fun _ _ => False) := by
  refine zw_startW hl (by decide) rfl rfl (Nat.le_of_ble_eq_true rfl) ?_
  intro pr e s m args below meth c ad A hA B
  refine zs_aload_n B dL_placeOf_0 (i := 3) rfl rfl ?_
  refine zs_iconst (v := 0) B dL_placeOf_1 (by decide) ?_
  refine zs_aload_n B dL_placeOf_2 (i := 0) rfl rfl ?_
  refine zs_iload_n B dL_placeOf_3 (i := 1) rfl rfl ?_
  refine zs_iload_n B dL_placeOf_4 (i := 2) rfl rfl ?_
  refine zs_callV (n := 2) (wlc := zb_W x) (as := [.int p1, .int p2]) (rest := [.int 0, .ref 70]) (b := 0) zL_is B hM gL_placeOf_X4_placeOf rfl ⟨rfl, by decide, by decide, by decide +kernel⟩ rfl (zL_sel x [zL_o f]) zL_nd rfl rfl rfl ⟨(by exact Nat.le_of_ble_eq_true rfl), (by exact Nat.le_of_ble_eq_true rfl)⟩ (by exact Nat.le_of_ble_eq_true rfl) ⟨(by exact Nat.le_of_ble_eq_true rfl), (by exact Nat.le_of_ble_eq_true rfl)⟩ dL_placeOf_5 zD_len zD_lenx ?_ ?_
  · rintro E9 w ⟨hk0, rfl, rfl⟩
    rcases hk with hk | ⟨rfl, rfl⟩ | ⟨rfl, rfl⟩
    · exact absurd hk hk0
    · refine zs_xcatchW (i := 4) B [] _ [_] rfl (by intro z hz; cases hz) rfl (by decide) (by decide +kernel) (by decide) dL_placeOf_13 (by decide) rfl ?_
      refine zs_eq (wl' := zb_W x ++ [zL_o f]) (zL_bk x x _) rfl rfl rfl ?_
      refine zs_iconst (v := 1) B dL_placeOf_15 (by decide) ?_
      exact zs_zret hA B rfl rfl (by exact Nat.le_of_ble_eq_true rfl) (by exact Nat.le_of_ble_eq_true rfl) ⟨x, f, rfl, rfl, by rw [hT (by decide)]; exact hR, fun h => absurd h (by decide)⟩ dL_placeOf_16
    · refine zs_xcatchW (i := 4) B [_] _ [] rfl (by intro z hz; cases List.mem_singleton.mp hz; exact ⟨by decide, zE_a, by decide +kernel, by decide⟩) rfl (by decide) (by decide +kernel) (by decide) dL_placeOf_17 (by decide) rfl ?_
      refine zs_eq (wl' := zb_W x ++ [zL_o f]) (zL_bk x x _) rfl rfl rfl ?_
      refine zs_iconst (v := 2) B dL_placeOf_19 (by decide) ?_
      exact zs_zret hA B rfl rfl (by exact Nat.le_of_ble_eq_true rfl) (by exact Nat.le_of_ble_eq_true rfl) ⟨x, f, rfl, rfl, by rw [hT (by decide)]; exact hR, fun h => absurd h (by decide)⟩ dL_placeOf_20
  · rintro r w ⟨hk0, x', rfl, rfl, hR'⟩
    subst hk0
    refine zs_eq (wl' := zb_W x' ++ [zL_o f]) (st' := [.int a, .int 0, .ref 70]) (zL_bk x x' _) rfl rfl rfl ?_
    refine zs_i2l B dL_placeOf_8 ?_
    refine zs_las (f := f) (n := 1) B 0 rfl (by decide) (by decide) nI_0.symm dL_placeOf_9 ?_
    refine zs_goto (tgt := 21) B dL_placeOf_10 (by decide) ?_
    refine zs_eq (wl' := zb_W x' ++ [zL_o (vp_updL f 0 a.toInt64)]) (zL_set x' _ _) rfl rfl rfl ?_
    refine zs_iconst (v := 0) B dL_placeOf_21 (by decide) ?_
    exact zs_zret hA B rfl rfl (by exact Nat.le_of_ble_eq_true rfl) (by exact Nat.le_of_ble_eq_true rfl) ⟨x', _, rfl, rfl, hR', fun _ => rfl⟩ dL_placeOf_22
set_option maxHeartbeats 8000000 in
theorem hL_setAt {l : Launch} (hl : l.stackTraces = false) (D : va_G) (dA : Nat → ClassId) {x : zb_D} {T : zb_T} (hR : zb_R T x) (p1 p2 p3 : Int32) (f : Nat → Int64) (k a : Int32) (E : String) (T' : zb_T) (hk : k = 0 ∨ (k = 1 ∧ E = zE_a) ∨ (k = 2 ∧ E = zE_i)) (hT : ¬ k = 0 → T' = T) (hM : zw_Sp l D dA yX4_setAt wsX4_setAt 7 2 12 [.ref 0, .int p1, .int p2, .int p3] (zb_W x) (zD_post k a T') (zD_px k E x)) :
    zw_Sp l D dA yL_setAt wsL_setAt 8 2 12 [.ref 0, .int p1, .int p2, .int p3, .ref 70] (zb_W x ++ [zL_o f]) (zH_post k a T') (fun _ _ => False) := by
  refine zw_startW hl (by decide) rfl rfl (Nat.le_of_ble_eq_true rfl) ?_
  intro pr e s m args below meth c ad A hA B
  refine zs_aload B dL_setAt_0 (i := 4) rfl ?_
  refine zs_iconst (v := 0) B dL_setAt_2 (by decide) ?_
  refine zs_aload_n B dL_setAt_3 (i := 0) rfl rfl ?_
  refine zs_iload_n B dL_setAt_4 (i := 1) rfl rfl ?_
  refine zs_iload_n B dL_setAt_5 (i := 2) rfl rfl ?_
  refine zs_iload_n B dL_setAt_6 (i := 3) rfl rfl ?_
  refine zs_callV (n := 3) (wlc := zb_W x) (as := [.int p1, .int p2, .int p3]) (rest := [.int 0, .ref 70]) (b := 0) zL_is B hM gL_setAt_X4_setAt rfl ⟨rfl, by decide, by decide, by decide +kernel⟩ rfl (zL_sel x [zL_o f]) zL_nd rfl rfl rfl ⟨(by exact Nat.le_of_ble_eq_true rfl), (by exact Nat.le_of_ble_eq_true rfl)⟩ (by exact Nat.le_of_ble_eq_true rfl) ⟨(by exact Nat.le_of_ble_eq_true rfl), (by exact Nat.le_of_ble_eq_true rfl)⟩ dL_setAt_7 zD_len zD_lenx ?_ ?_
  · rintro E9 w ⟨hk0, rfl, rfl⟩
    rcases hk with hk | ⟨rfl, rfl⟩ | ⟨rfl, rfl⟩
    · exact absurd hk hk0
    · refine zs_xcatchW (i := 5) B [] _ [_] rfl (by intro z hz; cases hz) rfl (by decide) (by decide +kernel) (by decide) dL_setAt_15 (by decide) rfl ?_
      refine zs_eq (wl' := zb_W x ++ [zL_o f]) (zL_bk x x _) rfl rfl rfl ?_
      refine zs_iconst (v := 1) B dL_setAt_17 (by decide) ?_
      exact zs_zret hA B rfl rfl (by exact Nat.le_of_ble_eq_true rfl) (by exact Nat.le_of_ble_eq_true rfl) ⟨x, f, rfl, rfl, by rw [hT (by decide)]; exact hR, fun h => absurd h (by decide)⟩ dL_setAt_18
    · refine zs_xcatchW (i := 5) B [_] _ [] rfl (by intro z hz; cases List.mem_singleton.mp hz; exact ⟨by decide, zE_a, by decide +kernel, by decide⟩) rfl (by decide) (by decide +kernel) (by decide) dL_setAt_19 (by decide) rfl ?_
      refine zs_eq (wl' := zb_W x ++ [zL_o f]) (zL_bk x x _) rfl rfl rfl ?_
      refine zs_iconst (v := 2) B dL_setAt_21 (by decide) ?_
      exact zs_zret hA B rfl rfl (by exact Nat.le_of_ble_eq_true rfl) (by exact Nat.le_of_ble_eq_true rfl) ⟨x, f, rfl, rfl, by rw [hT (by decide)]; exact hR, fun h => absurd h (by decide)⟩ dL_setAt_22
  · rintro r w ⟨hk0, x', rfl, rfl, hR'⟩
    subst hk0
    refine zs_eq (wl' := zb_W x' ++ [zL_o f]) (st' := [.int a, .int 0, .ref 70]) (zL_bk x x' _) rfl rfl rfl ?_
    refine zs_i2l B dL_setAt_10 ?_
    refine zs_las (f := f) (n := 1) B 0 rfl (by decide) (by decide) nI_0.symm dL_setAt_11 ?_
    refine zs_goto (tgt := 23) B dL_setAt_12 (by decide) ?_
    refine zs_eq (wl' := zb_W x' ++ [zL_o (vp_updL f 0 a.toInt64)]) (zL_set x' _ _) rfl rfl rfl ?_
    refine zs_iconst (v := 0) B dL_setAt_23 (by decide) ?_
    exact zs_zret hA B rfl rfl (by exact Nat.le_of_ble_eq_true rfl) (by exact Nat.le_of_ble_eq_true rfl) ⟨x', _, rfl, rfl, hR', fun _ => rfl⟩ dL_setAt_24
set_option maxHeartbeats 8000000 in
theorem hL_removeAt {l : Launch} (hl : l.stackTraces = false) (D : va_G) (dA : Nat → ClassId) {x : zb_D} {T : zb_T} (hR : zb_R T x) (p1 p2 : Int32) (f : Nat → Int64) (k a : Int32) (E : String) (T' : zb_T) (hk : k = 0 ∨ (k = 1 ∧ E = zE_a) ∨ (k = 2 ∧ E = zE_i)) (hT : ¬ k = 0 → T' = T) (hM : zw_Sp l D dA yX4_removeAt wsX4_removeAt 7 2 12 [.ref 0, .int p1, .int p2] (zb_W x) (zD_post k a T') (zD_px k E x)) :
    zw_Sp l D dA yL_removeAt wsL_removeAt 8 2 12 [.ref 0, .int p1, .int p2, .ref 70] (zb_W x ++ [zL_o f]) (zH_post k a T') (fun _ _ => False) := by
  refine zw_startW hl (by decide) rfl rfl (Nat.le_of_ble_eq_true rfl) ?_
  intro pr e s m args below meth c ad A hA B
  refine zs_aload_n B dL_removeAt_0 (i := 3) rfl rfl ?_
  refine zs_iconst (v := 0) B dL_removeAt_1 (by decide) ?_
  refine zs_aload_n B dL_removeAt_2 (i := 0) rfl rfl ?_
  refine zs_iload_n B dL_removeAt_3 (i := 1) rfl rfl ?_
  refine zs_iload_n B dL_removeAt_4 (i := 2) rfl rfl ?_
  refine zs_callV (n := 2) (wlc := zb_W x) (as := [.int p1, .int p2]) (rest := [.int 0, .ref 70]) (b := 0) zL_is B hM gL_removeAt_X4_removeAt rfl ⟨rfl, by decide, by decide, by decide +kernel⟩ rfl (zL_sel x [zL_o f]) zL_nd rfl rfl rfl ⟨(by exact Nat.le_of_ble_eq_true rfl), (by exact Nat.le_of_ble_eq_true rfl)⟩ (by exact Nat.le_of_ble_eq_true rfl) ⟨(by exact Nat.le_of_ble_eq_true rfl), (by exact Nat.le_of_ble_eq_true rfl)⟩ dL_removeAt_5 zD_len zD_lenx ?_ ?_
  · rintro E9 w ⟨hk0, rfl, rfl⟩
    rcases hk with hk | ⟨rfl, rfl⟩ | ⟨rfl, rfl⟩
    · exact absurd hk hk0
    · refine zs_xcatchW (i := 4) B [] _ [_] rfl (by intro z hz; cases hz) rfl (by decide) (by decide +kernel) (by decide) dL_removeAt_13 (by decide) rfl ?_
      refine zs_eq (wl' := zb_W x ++ [zL_o f]) (zL_bk x x _) rfl rfl rfl ?_
      refine zs_iconst (v := 1) B dL_removeAt_15 (by decide) ?_
      exact zs_zret hA B rfl rfl (by exact Nat.le_of_ble_eq_true rfl) (by exact Nat.le_of_ble_eq_true rfl) ⟨x, f, rfl, rfl, by rw [hT (by decide)]; exact hR, fun h => absurd h (by decide)⟩ dL_removeAt_16
    · refine zs_xcatchW (i := 4) B [_] _ [] rfl (by intro z hz; cases List.mem_singleton.mp hz; exact ⟨by decide, zE_a, by decide +kernel, by decide⟩) rfl (by decide) (by decide +kernel) (by decide) dL_removeAt_17 (by decide) rfl ?_
      refine zs_eq (wl' := zb_W x ++ [zL_o f]) (zL_bk x x _) rfl rfl rfl ?_
      refine zs_iconst (v := 2) B dL_removeAt_19 (by decide) ?_
      exact zs_zret hA B rfl rfl (by exact Nat.le_of_ble_eq_true rfl) (by exact Nat.le_of_ble_eq_true rfl) ⟨x, f, rfl, rfl, by rw [hT (by decide)]; exact hR, fun h => absurd h (by decide)⟩ dL_removeAt_20
  · rintro r w ⟨hk0, x', rfl, rfl, hR'⟩
    subst hk0
    refine zs_eq (wl' := zb_W x' ++ [zL_o f]) (st' := [.int a, .int 0, .ref 70]) (zL_bk x x' _) rfl rfl rfl ?_
    refine zs_i2l B dL_removeAt_8 ?_
    refine zs_las (f := f) (n := 1) B 0 rfl (by decide) (by decide) nI_0.symm dL_removeAt_9 ?_
    refine zs_goto (tgt := 21) B dL_removeAt_10 (by decide) ?_
    refine zs_eq (wl' := zb_W x' ++ [zL_o (vp_updL f 0 a.toInt64)]) (zL_set x' _ _) rfl rfl rfl ?_
    refine zs_iconst (v := 0) B dL_removeAt_21 (by decide) ?_
    exact zs_zret hA B rfl rfl (by exact Nat.le_of_ble_eq_true rfl) (by exact Nat.le_of_ble_eq_true rfl) ⟨x', _, rfl, rfl, hR', fun _ => rfl⟩ dL_removeAt_22
set_option maxHeartbeats 8000000 in
theorem hL_thin {l : Launch} (hl : l.stackTraces = false) (D : va_G) (dA : Nat → ClassId) {x : zb_D} {T : zb_T} (hR : zb_R T x) (p1 p2 : Int32) (f : Nat → Int64) (k a : Int32) (E : String) (T' : zb_T) (hk : k = 0 ∨ (k = 1 ∧ E = zE_a)) (hT : ¬ k = 0 → T' = T) (hM : zw_Sp l D dA yX4_thin wsX4_thin 7 2 12 [.ref 0, .int p1, .int p2] (zb_W x) (zD_post k a T') (zD_px k E x)) :
    zw_Sp l D dA yL_thin wsL_thin 8 2 12 [.ref 0, .int p1, .int p2, .ref 70] (zb_W x ++ [zL_o f]) (zH_post k a T') (fun _ _ => False) := by
  refine zw_startW hl (by decide) rfl rfl (Nat.le_of_ble_eq_true rfl) ?_
  intro pr e s m args below meth c ad A hA B
  refine zs_aload_n B dL_thin_0 (i := 3) rfl rfl ?_
  refine zs_iconst (v := 0) B dL_thin_1 (by decide) ?_
  refine zs_aload_n B dL_thin_2 (i := 0) rfl rfl ?_
  refine zs_iload_n B dL_thin_3 (i := 1) rfl rfl ?_
  refine zs_iload_n B dL_thin_4 (i := 2) rfl rfl ?_
  refine zs_callV (n := 2) (wlc := zb_W x) (as := [.int p1, .int p2]) (rest := [.int 0, .ref 70]) (b := 0) zL_is B hM gL_thin_X4_thin rfl ⟨rfl, by decide, by decide, by decide +kernel⟩ rfl (zL_sel x [zL_o f]) zL_nd rfl rfl rfl ⟨(by exact Nat.le_of_ble_eq_true rfl), (by exact Nat.le_of_ble_eq_true rfl)⟩ (by exact Nat.le_of_ble_eq_true rfl) ⟨(by exact Nat.le_of_ble_eq_true rfl), (by exact Nat.le_of_ble_eq_true rfl)⟩ dL_thin_5 zD_len zD_lenx ?_ ?_
  · rintro E9 w ⟨hk0, rfl, rfl⟩
    rcases hk with hk | ⟨rfl, rfl⟩
    · exact absurd hk hk0
    · refine zs_xcatchW (i := 4) B [] _ [] rfl (by intro z hz; cases hz) rfl (by decide) (by decide +kernel) (by decide) dL_thin_13 (by decide) rfl ?_
      refine zs_eq (wl' := zb_W x ++ [zL_o f]) (zL_bk x x _) rfl rfl rfl ?_
      refine zs_iconst (v := 1) B dL_thin_15 (by decide) ?_
      exact zs_zret hA B rfl rfl (by exact Nat.le_of_ble_eq_true rfl) (by exact Nat.le_of_ble_eq_true rfl) ⟨x, f, rfl, rfl, by rw [hT (by decide)]; exact hR, fun h => absurd h (by decide)⟩ dL_thin_16
  · rintro r w ⟨hk0, x', rfl, rfl, hR'⟩
    subst hk0
    refine zs_eq (wl' := zb_W x' ++ [zL_o f]) (st' := [.int a, .int 0, .ref 70]) (zL_bk x x' _) rfl rfl rfl ?_
    refine zs_i2l B dL_thin_8 ?_
    refine zs_las (f := f) (n := 1) B 0 rfl (by decide) (by decide) nI_0.symm dL_thin_9 ?_
    refine zs_goto (tgt := 17) B dL_thin_10 (by decide) ?_
    refine zs_eq (wl' := zb_W x' ++ [zL_o (vp_updL f 0 a.toInt64)]) (zL_set x' _ _) rfl rfl rfl ?_
    refine zs_iconst (v := 0) B dL_thin_17 (by decide) ?_
    exact zs_zret hA B rfl rfl (by exact Nat.le_of_ble_eq_true rfl) (by exact Nat.le_of_ble_eq_true rfl) ⟨x', _, rfl, rfl, hR', fun _ => rfl⟩ dL_thin_18
set_option maxHeartbeats 8000000 in
theorem hL_walk {l : Launch} (hl : l.stackTraces = false) (D : va_G) (dA : Nat → ClassId) {x : zb_D} {T : zb_T} (hR : zb_R T x) (p1 : Int32) (f : Nat → Int64) (k a : Int32) (E : String) (T' : zb_T) (hk : k = 0 ∨ (k = 1 ∧ E = zE_a)) (hT : ¬ k = 0 → T' = T) (hM : zw_Sp l D dA yX4_walk wsX4_walk 7 1 6 [.ref 0, .int p1] (zb_W x) (zD_post k a T') (zD_px k E x)) :
    zw_Sp l D dA yL_walk wsL_walk 8 1 6 [.ref 0, .int p1, .ref 70] (zb_W x ++ [zL_o f]) (zH_post k a T') (fun _ _ => False) := by
  refine zw_startW hl (by decide) rfl rfl (Nat.le_of_ble_eq_true rfl) ?_
  intro pr e s m args below meth c ad A hA B
  refine zs_aload_n B dL_walk_0 (i := 2) rfl rfl ?_
  refine zs_iconst (v := 0) B dL_walk_1 (by decide) ?_
  refine zs_aload_n B dL_walk_2 (i := 0) rfl rfl ?_
  refine zs_iload_n B dL_walk_3 (i := 1) rfl rfl ?_
  refine zs_callV (n := 1) (wlc := zb_W x) (as := [.int p1]) (rest := [.int 0, .ref 70]) (b := 0) zL_is B hM gL_walk_X4_walk rfl ⟨rfl, by decide, by decide, by decide +kernel⟩ rfl (zL_sel x [zL_o f]) zL_nd rfl rfl rfl ⟨(by exact Nat.le_of_ble_eq_true rfl), (by exact Nat.le_of_ble_eq_true rfl)⟩ (by exact Nat.le_of_ble_eq_true rfl) ⟨(by exact Nat.le_of_ble_eq_true rfl), (by exact Nat.le_of_ble_eq_true rfl)⟩ dL_walk_4 zD_len zD_lenx ?_ ?_
  · rintro E9 w ⟨hk0, rfl, rfl⟩
    rcases hk with hk | ⟨rfl, rfl⟩
    · exact absurd hk hk0
    · refine zs_xcatch (i := 3) B [] _ [] rfl (by intro z hz; cases hz) rfl (by decide) (by decide +kernel) (by decide) dL_walk_12 rfl (by decide) rfl ?_
      refine zs_eq (wl' := zb_W x ++ [zL_o f]) (zL_bk x x _) rfl rfl rfl ?_
      refine zs_iconst (v := 1) B dL_walk_13 (by decide) ?_
      exact zs_zret hA B rfl rfl (by exact Nat.le_of_ble_eq_true rfl) (by exact Nat.le_of_ble_eq_true rfl) ⟨x, f, rfl, rfl, by rw [hT (by decide)]; exact hR, fun h => absurd h (by decide)⟩ dL_walk_14
  · rintro r w ⟨hk0, x', rfl, rfl, hR'⟩
    subst hk0
    refine zs_eq (wl' := zb_W x' ++ [zL_o f]) (st' := [.int a, .int 0, .ref 70]) (zL_bk x x' _) rfl rfl rfl ?_
    refine zs_i2l B dL_walk_7 ?_
    refine zs_las (f := f) (n := 1) B 0 rfl (by decide) (by decide) nI_0.symm dL_walk_8 ?_
    refine zs_goto (tgt := 15) B dL_walk_9 (by decide) ?_
    refine zs_eq (wl' := zb_W x' ++ [zL_o (vp_updL f 0 a.toInt64)]) (zL_set x' _ _) rfl rfl rfl ?_
    refine zs_iconst (v := 0) B dL_walk_15 (by decide) ?_
    exact zs_zret hA B rfl rfl (by exact Nat.le_of_ble_eq_true rfl) (by exact Nat.le_of_ble_eq_true rfl) ⟨x', _, rfl, rfl, hR', fun _ => rfl⟩ dL_walk_16
set_option maxHeartbeats 8000000 in
theorem hL_step {l : Launch} (hl : l.stackTraces = false) (D : va_G) (dA : Nat → ClassId) {x : zb_D} {T : zb_T} (hR : zb_R T x) (f : Nat → Int64) (k a : Int32) (E : String) (T' : zb_T) (hk : k = 0 ∨ (k = 1 ∧ E = zE_s) ∨ (k = 2 ∧ E = zE_n)) (hT : ¬ k = 0 → T' = T) (hM : zw_Sp l D dA yX4_step wsX4_step 7 1 6 [.ref 0] (zb_W x) (zD_post k a T') (zD_px k E x)) :
    zw_Sp l D dA yL_step wsL_step 8 1 6 [.ref 0, .ref 70] (zb_W x ++ [zL_o f]) (zH_post k a T') (fun _ _ => False) := by
  refine zw_startW hl (by decide) rfl rfl (Nat.le_of_ble_eq_true rfl) ?_
  intro pr e s m args below meth c ad A hA B
  refine zs_aload_n B dL_step_0 (i := 1) rfl rfl ?_
  refine zs_iconst (v := 0) B dL_step_1 (by decide) ?_
  refine zs_aload_n B dL_step_2 (i := 0) rfl rfl ?_
  refine zs_callV (n := 0) (wlc := zb_W x) (as := []) (rest := [.int 0, .ref 70]) (b := 0) zL_is B hM gL_step_X4_step rfl ⟨rfl, by decide, by decide, by decide +kernel⟩ rfl (zL_sel x [zL_o f]) zL_nd rfl rfl rfl ⟨(by exact Nat.le_of_ble_eq_true rfl), (by exact Nat.le_of_ble_eq_true rfl)⟩ (by exact Nat.le_of_ble_eq_true rfl) ⟨(by exact Nat.le_of_ble_eq_true rfl), (by exact Nat.le_of_ble_eq_true rfl)⟩ dL_step_3 zD_len zD_lenx ?_ ?_
  · rintro E9 w ⟨hk0, rfl, rfl⟩
    rcases hk with hk | ⟨rfl, rfl⟩ | ⟨rfl, rfl⟩
    · exact absurd hk hk0
    · refine zs_xcatch (i := 2) B [] _ [_] rfl (by intro z hz; cases hz) rfl (by decide) (by decide +kernel) (by decide) dL_step_11 rfl (by decide) rfl ?_
      refine zs_eq (wl' := zb_W x ++ [zL_o f]) (zL_bk x x _) rfl rfl rfl ?_
      refine zs_iconst (v := 1) B dL_step_12 (by decide) ?_
      exact zs_zret hA B rfl rfl (by exact Nat.le_of_ble_eq_true rfl) (by exact Nat.le_of_ble_eq_true rfl) ⟨x, f, rfl, rfl, by rw [hT (by decide)]; exact hR, fun h => absurd h (by decide)⟩ dL_step_13
    · refine zs_xcatch (i := 2) B [_] _ [] rfl (by intro z hz; cases List.mem_singleton.mp hz; exact ⟨by decide, zE_s, by decide +kernel, by decide⟩) rfl (by decide) (by decide +kernel) (by decide) dL_step_14 rfl (by decide) rfl ?_
      refine zs_eq (wl' := zb_W x ++ [zL_o f]) (zL_bk x x _) rfl rfl rfl ?_
      refine zs_iconst (v := 2) B dL_step_15 (by decide) ?_
      exact zs_zret hA B rfl rfl (by exact Nat.le_of_ble_eq_true rfl) (by exact Nat.le_of_ble_eq_true rfl) ⟨x, f, rfl, rfl, by rw [hT (by decide)]; exact hR, fun h => absurd h (by decide)⟩ dL_step_16
  · rintro r w ⟨hk0, x', rfl, rfl, hR'⟩
    subst hk0
    refine zs_eq (wl' := zb_W x' ++ [zL_o f]) (st' := [.int a, .int 0, .ref 70]) (zL_bk x x' _) rfl rfl rfl ?_
    refine zs_i2l B dL_step_6 ?_
    refine zs_las (f := f) (n := 1) B 0 rfl (by decide) (by decide) nI_0.symm dL_step_7 ?_
    refine zs_goto (tgt := 17) B dL_step_8 (by decide) ?_
    refine zs_eq (wl' := zb_W x' ++ [zL_o (vp_updL f 0 a.toInt64)]) (zL_set x' _ _) rfl rfl rfl ?_
    refine zs_iconst (v := 0) B dL_step_17 (by decide) ?_
    exact zs_zret hA B rfl rfl (by exact Nat.le_of_ble_eq_true rfl) (by exact Nat.le_of_ble_eq_true rfl) ⟨x', _, rfl, rfl, hR', fun _ => rfl⟩ dL_step_18
set_option maxHeartbeats 8000000 in
theorem hL_cut {l : Launch} (hl : l.stackTraces = false) (D : va_G) (dA : Nat → ClassId) {x : zb_D} {T : zb_T} (hR : zb_R T x) (f : Nat → Int64) (k a : Int32) (E : String) (T' : zb_T) (hk : k = 0 ∨ (k = 1 ∧ E = zE_s)) (hT : ¬ k = 0 → T' = T) (hM : zw_Sp l D dA yX4_cut wsX4_cut 7 1 6 [.ref 0] (zb_W x) (zD_post k a T') (zD_px k E x)) :
    zw_Sp l D dA yL_cut wsL_cut 8 1 6 [.ref 0, .ref 70] (zb_W x ++ [zL_o f]) (zH_post k a T') (fun _ _ => False) := by
  refine zw_startW hl (by decide) rfl rfl (Nat.le_of_ble_eq_true rfl) ?_
  intro pr e s m args below meth c ad A hA B
  refine zs_aload_n B dL_cut_0 (i := 1) rfl rfl ?_
  refine zs_iconst (v := 0) B dL_cut_1 (by decide) ?_
  refine zs_aload_n B dL_cut_2 (i := 0) rfl rfl ?_
  refine zs_callV (n := 0) (wlc := zb_W x) (as := []) (rest := [.int 0, .ref 70]) (b := 0) zL_is B hM gL_cut_X4_cut rfl ⟨rfl, by decide, by decide, by decide +kernel⟩ rfl (zL_sel x [zL_o f]) zL_nd rfl rfl rfl ⟨(by exact Nat.le_of_ble_eq_true rfl), (by exact Nat.le_of_ble_eq_true rfl)⟩ (by exact Nat.le_of_ble_eq_true rfl) ⟨(by exact Nat.le_of_ble_eq_true rfl), (by exact Nat.le_of_ble_eq_true rfl)⟩ dL_cut_3 zD_len zD_lenx ?_ ?_
  · rintro E9 w ⟨hk0, rfl, rfl⟩
    rcases hk with hk | ⟨rfl, rfl⟩
    · exact absurd hk hk0
    · refine zs_xcatch (i := 2) B [] _ [] rfl (by intro z hz; cases hz) rfl (by decide) (by decide +kernel) (by decide) dL_cut_11 rfl (by decide) rfl ?_
      refine zs_eq (wl' := zb_W x ++ [zL_o f]) (zL_bk x x _) rfl rfl rfl ?_
      refine zs_iconst (v := 1) B dL_cut_12 (by decide) ?_
      exact zs_zret hA B rfl rfl (by exact Nat.le_of_ble_eq_true rfl) (by exact Nat.le_of_ble_eq_true rfl) ⟨x, f, rfl, rfl, by rw [hT (by decide)]; exact hR, fun h => absurd h (by decide)⟩ dL_cut_13
  · rintro r w ⟨hk0, x', rfl, rfl, hR'⟩
    subst hk0
    refine zs_eq (wl' := zb_W x' ++ [zL_o f]) (st' := [.int a, .int 0, .ref 70]) (zL_bk x x' _) rfl rfl rfl ?_
    refine zs_i2l B dL_cut_6 ?_
    refine zs_las (f := f) (n := 1) B 0 rfl (by decide) (by decide) nI_0.symm dL_cut_7 ?_
    refine zs_goto (tgt := 14) B dL_cut_8 (by decide) ?_
    refine zs_eq (wl' := zb_W x' ++ [zL_o (vp_updL f 0 a.toInt64)]) (zL_set x' _ _) rfl rfl rfl ?_
    refine zs_iconst (v := 0) B dL_cut_14 (by decide) ?_
    exact zs_zret hA B rfl rfl (by exact Nat.le_of_ble_eq_true rfl) (by exact Nat.le_of_ble_eq_true rfl) ⟨x', _, rfl, rfl, hR', fun _ => rfl⟩ dL_cut_15
set_option maxHeartbeats 8000000 in
theorem hL_move {l : Launch} (hl : l.stackTraces = false) (D : va_G) (dA : Nat → ClassId) {x : zb_D} {T : zb_T} (hR : zb_R T x) (p1 : Int32) (f : Nat → Int64) (k a : Int32) (E : String) (T' : zb_T) (hk : k = 0 ∨ (k = 1 ∧ E = zE_i)) (hT : ¬ k = 0 → T' = T) (hM : zw_Sp l D dA yX4_move wsX4_move 7 1 6 [.ref 0, .int p1] (zb_W x) (zD_post k a T') (zD_px k E x)) :
    zw_Sp l D dA yL_move wsL_move 8 1 6 [.ref 0, .int p1, .ref 70] (zb_W x ++ [zL_o f]) (zH_post k a T') (fun _ _ => False) := by
  refine zw_startW hl (by decide) rfl rfl (Nat.le_of_ble_eq_true rfl) ?_
  intro pr e s m args below meth c ad A hA B
  refine zs_aload_n B dL_move_0 (i := 2) rfl rfl ?_
  refine zs_iconst (v := 0) B dL_move_1 (by decide) ?_
  refine zs_aload_n B dL_move_2 (i := 0) rfl rfl ?_
  refine zs_iload_n B dL_move_3 (i := 1) rfl rfl ?_
  refine zs_callV (n := 1) (wlc := zb_W x) (as := [.int p1]) (rest := [.int 0, .ref 70]) (b := 0) zL_is B hM gL_move_X4_move rfl ⟨rfl, by decide, by decide, by decide +kernel⟩ rfl (zL_sel x [zL_o f]) zL_nd rfl rfl rfl ⟨(by exact Nat.le_of_ble_eq_true rfl), (by exact Nat.le_of_ble_eq_true rfl)⟩ (by exact Nat.le_of_ble_eq_true rfl) ⟨(by exact Nat.le_of_ble_eq_true rfl), (by exact Nat.le_of_ble_eq_true rfl)⟩ dL_move_4 zD_len zD_lenx ?_ ?_
  · rintro E9 w ⟨hk0, rfl, rfl⟩
    rcases hk with hk | ⟨rfl, rfl⟩
    · exact absurd hk hk0
    · refine zs_xcatch (i := 3) B [] _ [] rfl (by intro z hz; cases hz) rfl (by decide) (by decide +kernel) (by decide) dL_move_12 rfl (by decide) rfl ?_
      refine zs_eq (wl' := zb_W x ++ [zL_o f]) (zL_bk x x _) rfl rfl rfl ?_
      refine zs_iconst (v := 1) B dL_move_13 (by decide) ?_
      exact zs_zret hA B rfl rfl (by exact Nat.le_of_ble_eq_true rfl) (by exact Nat.le_of_ble_eq_true rfl) ⟨x, f, rfl, rfl, by rw [hT (by decide)]; exact hR, fun h => absurd h (by decide)⟩ dL_move_14
  · rintro r w ⟨hk0, x', rfl, rfl, hR'⟩
    subst hk0
    refine zs_eq (wl' := zb_W x' ++ [zL_o f]) (st' := [.int a, .int 0, .ref 70]) (zL_bk x x' _) rfl rfl rfl ?_
    refine zs_i2l B dL_move_7 ?_
    refine zs_las (f := f) (n := 1) B 0 rfl (by decide) (by decide) nI_0.symm dL_move_8 ?_
    refine zs_goto (tgt := 15) B dL_move_9 (by decide) ?_
    refine zs_eq (wl' := zb_W x' ++ [zL_o (vp_updL f 0 a.toInt64)]) (zL_set x' _ _) rfl rfl rfl ?_
    refine zs_iconst (v := 0) B dL_move_15 (by decide) ?_
    exact zs_zret hA B rfl rfl (by exact Nat.le_of_ble_eq_true rfl) (by exact Nat.le_of_ble_eq_true rfl) ⟨x', _, rfl, rfl, hR', fun _ => rfl⟩ dL_move_16
set_option maxHeartbeats 8000000 in
theorem hL_undo {l : Launch} (hl : l.stackTraces = false) (D : va_G) (dA : Nat → ClassId) {x : zb_D} {T : zb_T} (hR : zb_R T x) (f : Nat → Int64) (k a : Int32) (E : String) (T' : zb_T) (hk : k = 0 ∨ (k = 1 ∧ E = zE_n)) (hT : ¬ k = 0 → T' = T) (hM : zw_Sp l D dA yX4_undo wsX4_undo 7 1 6 [.ref 0] (zb_W x) (zD_post k a T') (zD_px k E x)) :
    zw_Sp l D dA yL_undo wsL_undo 8 1 6 [.ref 0, .ref 70] (zb_W x ++ [zL_o f]) (zH_post k a T') (fun _ _ => False) := by
  refine zw_startW hl (by decide) rfl rfl (Nat.le_of_ble_eq_true rfl) ?_
  intro pr e s m args below meth c ad A hA B
  refine zs_aload_n B dL_undo_0 (i := 1) rfl rfl ?_
  refine zs_iconst (v := 0) B dL_undo_1 (by decide) ?_
  refine zs_aload_n B dL_undo_2 (i := 0) rfl rfl ?_
  refine zs_callV (n := 0) (wlc := zb_W x) (as := []) (rest := [.int 0, .ref 70]) (b := 0) zL_is B hM gL_undo_X4_undo rfl ⟨rfl, by decide, by decide, by decide +kernel⟩ rfl (zL_sel x [zL_o f]) zL_nd rfl rfl rfl ⟨(by exact Nat.le_of_ble_eq_true rfl), (by exact Nat.le_of_ble_eq_true rfl)⟩ (by exact Nat.le_of_ble_eq_true rfl) ⟨(by exact Nat.le_of_ble_eq_true rfl), (by exact Nat.le_of_ble_eq_true rfl)⟩ dL_undo_3 zD_len zD_lenx ?_ ?_
  · rintro E9 w ⟨hk0, rfl, rfl⟩
    rcases hk with hk | ⟨rfl, rfl⟩
    · exact absurd hk hk0
    · refine zs_xcatch (i := 2) B [] _ [] rfl (by intro z hz; cases hz) rfl (by decide) (by decide +kernel) (by decide) dL_undo_11 rfl (by decide) rfl ?_
      refine zs_eq (wl' := zb_W x ++ [zL_o f]) (zL_bk x x _) rfl rfl rfl ?_
      refine zs_iconst (v := 1) B dL_undo_12 (by decide) ?_
      exact zs_zret hA B rfl rfl (by exact Nat.le_of_ble_eq_true rfl) (by exact Nat.le_of_ble_eq_true rfl) ⟨x, f, rfl, rfl, by rw [hT (by decide)]; exact hR, fun h => absurd h (by decide)⟩ dL_undo_13
  · rintro r w ⟨hk0, x', rfl, rfl, hR'⟩
    subst hk0
    refine zs_eq (wl' := zb_W x' ++ [zL_o f]) (st' := [.int a, .int 0, .ref 70]) (zL_bk x x' _) rfl rfl rfl ?_
    refine zs_i2l B dL_undo_6 ?_
    refine zs_las (f := f) (n := 1) B 0 rfl (by decide) (by decide) nI_0.symm dL_undo_7 ?_
    refine zs_goto (tgt := 14) B dL_undo_8 (by decide) ?_
    refine zs_eq (wl' := zb_W x' ++ [zL_o (vp_updL f 0 a.toInt64)]) (zL_set x' _ _) rfl rfl rfl ?_
    refine zs_iconst (v := 0) B dL_undo_14 (by decide) ?_
    exact zs_zret hA B rfl rfl (by exact Nat.le_of_ble_eq_true rfl) (by exact Nat.le_of_ble_eq_true rfl) ⟨x', _, rfl, rfl, hR', fun _ => rfl⟩ dL_undo_15
