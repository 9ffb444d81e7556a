/-! a call with the whole world -/
section ZC0
variable {p : Program} {l : Launch} {e : Env} {R : Room} {s : State} {m : MethodId} {args : Array Value} {below : List Frame} {meth : Method} {c : Code} {Q : State → Prop} {cc : ByteArray} {nL : Nat} {ret : Option FieldType} {own nm : String} {Ts : List Cond} {tb : List ExceptionTableEntry} {D : va_G} {dA : Nat → ClassId} {A : Nat → Prop} {ad0 : Nat → Nat} {n0 cells slots pc : Nat} {wl : List zw_E} {lv : List (Option Value)} {rest : List Value}
theorem zw_callPre0 {as : List Value} {ad : Nat → Nat} {H : Heap} {locs : List Loc} (B : zw_B p l s m args meth c cc nL ret own nm Ts tb D dA A) (hP : va_P D vwCl (zw_of dA ad wl) H) (hD : va_D A (zw_of dA ad wl)) (hS : va_S A s.heap H locs) :
    PreS s H (zw_Pc D dA as wl ad H.size) (as.map (zw_cv ad)) ∧ (∀ q, zw_A ad wl.length H.size q → A q) := by
  have hD0 := zw_D_iff.mp hD
  have hAA : ∀ q, zw_A ad wl.length H.size q → A q := by
    rintro q (⟨j, hj, rfl⟩ | h)
    · exact hD0.2 j hj
    · exact B.2.2.2.2.2.2.2.2.2.1 q (Nat.le_trans hS.1 h)
  refine ⟨⟨?_, ?_⟩, hAA⟩
  · rintro a U g mk ⟨q0, q1, q2, q3, q4, q5⟩
    exact ⟨q0, q1, q2, q3, zw_K.same (s := U) (U := U.calling g mk a) rfl q4, vx_Zq.moved (Vm.Alike.refl U.vm) q5.1, vx_Zq.moved (Vm.Alike.refl U.vm) q5.2⟩
  · intro U hU hW
    have hz : zw_Z A U H := ⟨vx_Zq.moved hW.alike (B.2.2.2.2.2.2.2.1.1.kept hS.2.1), vx_Zq.moved hW.alike (B.2.2.2.2.2.2.2.1.2.kept hS.2.1)⟩
    refine ⟨rfl, by rw [hU], by rw [hU]; exact hP, zw_D_iff.mpr ⟨hD0.1, fun _ _ => trivial⟩, zw_K.warm hW B.2.2.2.2.2.2.1, ?_, ?_⟩
    · rw [hU]; exact vx_Zq.narrow hz.1 hAA
    · rw [hU]; exact vx_Zq.narrow hz.2 hAA
theorem zs_callV0 {y : MethodName} {ws' ws'' : List Cond} {bytes : ByteArray} {maxL idx n fr mc ms : Nat} {ret' : Option FieldType} {as : List Value} {b : Nat} {post : Option Value → List zw_E → Prop} {px : String → List zw_E → Prop} {C : String} {T9 : u_T} {N9 ci : Nat} {fs : List Value} (B : zw_B p l s m args meth c cc nL ret own nm Ts tb D dA A) (hM : zw_Sp l D dA y ws' fr mc ms (.ref b :: as) wl post px)
    (gg : GoodIn Ts (wsV own idx C y ws')) (hw : ws' = Cond.code y bytes maxL ret' :: ws'') (hd : y.cls = C ∧ y.cls ≠ "java/lang/invoke/MethodHandle" ∧ y.cls ≠ "java/lang/invoke/VarHandle" ∧ (parseMethodDescriptor y.desc).map (fun d => d.parameters.length) = some n) (hn : as.length = n)
    (hb : wl[b]? = some (.inr (ci, fs))) (hci : vwCl[ci]? = some (C, T9, N9)) {st : List Value} (hst : st = as.reverse ++ .ref b :: rest) (hR : fr + 1 ≤ R.frames ∧ 8 + (maxL + 11) + 36 * fr ≤ R.locals) (hrest : (rest.map fun v => v.category).sum ≤ 8) (hc : cells + mc ≤ R.cells ∧ slots + ms ≤ R.slots)
    (hdg : decode cc pc = .ok (.invokevirtual idx, 3)) (hlen : ∀ v wl', post v wl' → wl'.length = wl.length) (hlx : ∀ E wl', px E wl' → wl'.length = wl.length)
    (kx : ∀ E wl', px E wl' → zw_x p l e R s m args below meth c Q D dA A ad0 n0 nL (cells + mc) (slots + ms) E wl' pc lv rest)
    (kk : ∀ v wl', post v wl' → zw_k p l e R s m args below meth c Q D dA A ad0 n0 nL (cells + mc) (slots + ms) wl' (pc + 3) lv (v.toList ++ rest)) :
    zw_k p l e R s m args below meth c Q D dA A ad0 n0 nL cells slots wl pc lv st := fun ad H locs ls a1 a2 a3 hP hD hS hl => by
  obtain ⟨hp, hAA⟩ := zw_callPre0 (as := .ref b :: as) B hP hD hS
  subst hst
  have hrec := va_recv (q := (C, T9, N9)) B.2.2.2.2.2.2.1.1 hP hci (zw_of_at hb)
  have hr : vx_Run p l e R s m args below meth c H locs cells slots mc ms (F0 m pc ls ((as.reverse ++ .ref b :: rest).map (zw_cv ad))) (rest.map (zw_cv ad)) (zw_Qc D dA wl ad H.size post (Value.ref (ad b) :: as.map (zw_cv ad)).toArray) (zw_XC D dA wl ad H.size px) (zw_A ad wl.length H.size) := by
    refine vx_runV (As := as.map (zw_cv ad)) (C := C) (n := n) (rm := zw_rm fr mc ms) ⟨B.1, B.2.1, B.2.2.2.1, B.2.2.2.2.1, B.2.2.2.2.2.1⟩ (hM ad H.size) (cwV n B.2.2.2.2.2.1 gg hw rfl rfl hd hR) ⟨hp.1, hrec, hp.2⟩ rfl (by rw [List.length_map]; exact hn) hl.1 ?_ (zw_rest8 hrest) hdg hc
    show (as.reverse ++ .ref b :: rest).map (zw_cv ad) = _
    rw [List.map_append, List.map_reverse]
    rfl
  have hD0 := zw_D_iff.mp hD
  intro T hT X
  rcases hr T hT X with ⟨v, st₀, t, T', L, h0, X', hL, e1, e2, ⟨⟨v', wl', ad', hv, hpost, b1, b2, b3, hP1, hD1⟩, hF⟩, stp⟩ | ⟨q, st₀, t, T', L, E, ce, h0, X', hL, e1, e2, ⟨⟨wl', ad', hpost, b1, b2, b3, hP1, hD1⟩, hF⟩, hce, hcv, hcl, stp⟩
  · have hlw := hlen _ _ hpost
    have e3 := b2 hlw
    subst e3
    cases hv
    obtain ⟨k1, k2, k3⟩ := vx_keep h0 e1 hS (fun q _ h => hAA q h) hAA hL hF
    have hw := kk v' wl' hpost ad' T'.heap (locs ++ L) ls a1 (by rw [hlw]; exact a2) (by rw [hlw]; exact a3) (by rw [e1]; exact hP1) (zw_D_iff.mpr (by rw [hlw]; exact hD0)) k3 hl
    have e5 : (v'.toList ++ rest).map (zw_cv ad') = (v'.map (zw_cv ad')).toList ++ rest.map (zw_cv ad') := by
      cases v' with
      | none => rfl
      | some v' => simp
    rw [e5] at hw
    obtain ⟨t2, q1, q2⟩ := hw T' rfl X'
    exact ⟨t2, stp t2 q1, q2⟩
  · have hlw := hlx _ _ hpost
    have e3 := b2 hlw
    subst e3
    obtain ⟨k1, k2, k3⟩ := vx_keep h0 e1 hS (fun q _ h => hAA q h) hAA hL hF
    obtain ⟨t2, q1, q2⟩ := kx E wl' hpost ad' T'.heap (locs ++ L) ls q ce a1 (by rw [hlw]; exact a2) (by rw [hlw]; exact a3) (by rw [e1]; exact hP1) (zw_D_iff.mpr (by rw [hlw]; exact hD0)) k3 hl (by rw [e1]; exact hce) hcv hcl T' rfl X'
    exact ⟨t2, stp.trans q1, q2⟩
end ZC0
theorem zw_sel_of {wl : List zw_E} {is : List Nat} {wlc es : List zw_E} (h : wlc.map (zw_rE is) = es) (h2 : is.map (fun i => wl[i]?) = es.map some) : zw_sel wl is wlc := by
  unfold zw_sel
  rw [h2, ← h, List.map_map]
  rfl
/-- looking up a block -/
theorem zw_look : ∀ (Y X1 X2 : List zw_E), (List.range' X1.length Y.length).map (fun i => (X1 ++ (Y ++ X2))[i]?) = Y.map some
  | [], _, _ => rfl
  | y :: Y, X1, X2 => by
    have ih := zw_look Y (X1 ++ [y]) X2
    rw [List.length_append, show [y].length = 1 from rfl, List.append_assoc, List.singleton_append] at ih
    show (X1 ++ (y :: Y ++ X2))[X1.length]? :: (List.range' (X1.length + 1) Y.length).map (fun i => (X1 ++ (y :: (Y ++ X2)))[i]?) = some y :: Y.map some
    rw [ih, List.getElem?_append_right (Nat.le_refl _), Nat.sub_self]
    rfl
theorem zw_look1 {X1 Y X2 : List zw_E} {is : List Nat} (h1 : is = List.range' X1.length Y.length) : is.map (fun i => (X1 ++ (Y ++ X2))[i]?) = Y.map some := by
  rw [h1]; exact zw_look Y X1 X2
/-! the book -/
abbrev zb_D : Type := zp_D × zq_D × zt_D × zr_D
def zb_o : zw_E := .inr (4, [.ref 1, .ref 8, .ref 66, .ref 67])
def zt_W1 (t : zt_D) : List zw_E := [.inr (3, [.int t.1, .int t.2.1, .int t.2.2.1, .int t.2.2.2])]
def zb_W (x : zb_D) : List zw_E := zb_o :: (zp_W 1 x.1 ++ (zq_W 8 x.2.1 ++ (zt_W x.2.2.1 ++ zr_W 67 x.2.2.2)))
theorem zb_upP (x : zb_D) (g : zp_D) : zw_back (zb_W x) [1, 2, 3, 4, 5, 6, 7] ((zp_W 0 g).map (zw_rE [1, 2, 3, 4, 5, 6, 7])) = zb_W (g, x.2) := by
  have h1 : (zp_W 0 g).map (zw_rE [1, 2, 3, 4, 5, 6, 7]) = zp_W 1 g := rfl
  rw [h1]
  exact zw_put1 (X1 := [zb_o]) (Y := zp_W 1 x.1) (Y' := zp_W 1 g) (X2 := zq_W 8 x.2.1 ++ (zt_W x.2.2.1 ++ zr_W 67 x.2.2.2)) (is := [1, 2, 3, 4, 5, 6, 7]) rfl rfl
theorem zb_upT (x : zb_D) (t : zt_D) : zw_back (zb_W x) [66] ((zt_W t).map (zw_rE [66])) = zb_W (x.1, x.2.1, t, x.2.2.2) := by
  have h := zw_put1 (X1 := zb_o :: (zp_W 1 x.1 ++ zq_W 8 x.2.1)) (Y := zt_W x.2.2.1) (Y' := zt_W t) (X2 := zr_W 67 x.2.2.2) (is := [66]) rfl rfl
  simp only [List.cons_append, List.append_assoc] at h
  exact h
theorem zb_upR (x : zb_D) (d : zr_D) : zw_back (zb_W x) [67, 68, 69] ((zr_W 0 d).map (zw_rE [67, 68, 69])) = zb_W (x.1, x.2.1, x.2.2.1, d) := by
  have h := zw_put1 (X1 := zb_o :: (zp_W 1 x.1 ++ (zq_W 8 x.2.1 ++ zt_W x.2.2.1))) (Y := zr_W 67 x.2.2.2) (Y' := zr_W 67 d) (X2 := []) (is := [67, 68, 69]) rfl rfl
  simp only [List.cons_append, List.append_assoc, List.append_nil] at h
  exact h
abbrev zb_is : List Nat := [8, 9, 10, 11, 12, 13, 14, 15, 16, 17, 18, 19, 20, 21, 22, 23, 24, 25, 26, 27, 28, 29, 30, 31, 32, 33, 34, 35, 36, 37, 38, 39, 40, 41, 42, 43, 44, 45, 46, 47, 48, 49, 50, 51, 52, 53, 54, 55, 56, 57, 58, 59, 60, 61, 62, 63, 64, 65]
abbrev zb_isK : List Nat := [8, 9, 10, 11, 12, 13, 14, 15, 16, 17, 18, 19, 20, 21, 22, 23, 24, 25, 26, 27, 28, 29, 30, 31, 32, 33, 34, 35, 36, 37, 38, 39, 40, 41, 42, 43, 44, 45, 46, 47, 48, 49, 50, 51, 52, 53, 54, 55, 56, 57, 58, 59, 60, 61, 62, 63, 64, 65, 1, 2, 3, 4, 5, 6, 7]
theorem zq_pg_rn (is : List Nat) (i : Nat) (h : ∀ k, k < 8 → zw_ix is (2 + 7 * k) = i + 2 + 7 * k) : (fun j => (zq_pg 0 j).map (zw_ix is)) = zq_pg i := by
  have h0 := h 0 (by omega)
  have h1 := h 1 (by omega)
  have h2 := h 2 (by omega)
  have h3 := h 3 (by omega)
  have h4 := h 4 (by omega)
  have h5 := h 5 (by omega)
  have h6 := h 6 (by omega)
  have h7 := h 7 (by omega)
  funext j
  unfold zq_pg va_up
  by_cases e7 : j = 7
  · simp only [e7, if_pos]; exact congrArg some h7
  · by_cases e6 : j = 6
    · simp only [e6, if_pos]; exact congrArg some h6
    · by_cases e5 : j = 5
      · simp only [e5, if_pos]; exact congrArg some h5
      · by_cases e4 : j = 4
        · simp only [e4, if_pos]; exact congrArg some h4
        · by_cases e3 : j = 3
          · simp only [e3, if_pos]; exact congrArg some h3
          · by_cases e2 : j = 2
            · simp only [e2, if_pos]; exact congrArg some h2
            · by_cases e1 : j = 1
              · simp only [e1, if_pos]; exact congrArg some h1
              · by_cases e0 : j = 0
                · simp only [e0, if_pos]; exact congrArg some h0
                · simp only [e7, e6, e5, e4, e3, e2, e1, e0, if_false]; rfl
theorem zq_rn (q : zq_D) : (zq_W 0 q).map (zw_rE zb_is) = zq_W 8 q := by
  have h := zq_pg_rn zb_is 8 (fun k hk => co_dec (N := 8) (P := fun k => zw_ix zb_is (2 + 7 * k) = 8 + 2 + 7 * k) (by decide +kernel) hk)
  show zw_rE zb_is (.inr (1, _)) :: (.inl (3, 8, .inr (.inr (.inr (.inr (fun j => (zq_pg 0 j).map (zw_ix zb_is)))))) : zw_E) :: List.map (zw_rE zb_is) _ = _
  rw [h]
  rfl
theorem zq_rnK (q : zq_D) (g : zp_D) : (zq_W 0 q ++ zp_W 58 g).map (zw_rE zb_isK) = zq_W 8 q ++ zp_W 1 g := by
  have h := zq_pg_rn zb_isK 8 (fun k hk => co_dec (N := 8) (P := fun k => zw_ix zb_isK (2 + 7 * k) = 8 + 2 + 7 * k) (by decide +kernel) hk)
  show zw_rE zb_isK (.inr (1, _)) :: (.inl (3, 8, .inr (.inr (.inr (.inr (fun j => (zq_pg 0 j).map (zw_ix zb_isK)))))) : zw_E) :: List.map (zw_rE zb_isK) _ = _
  rw [h]
  rfl
theorem zb_selQ (x : zb_D) : zw_sel (zb_W x) zb_is (zq_W 0 x.2.1) := by
  refine zw_sel_of (zq_rn x.2.1) ?_
  have h := zw_look1 (X1 := zb_o :: zp_W 1 x.1) (Y := zq_W 8 x.2.1) (X2 := zt_W x.2.2.1 ++ zr_W 67 x.2.2.2) (is := zb_is) rfl
  simp only [List.cons_append] at h
  exact h
theorem zb_lookP (x : zb_D) : [1, 2, 3, 4, 5, 6, 7].map (fun i => (zb_W x)[i]?) = (zp_W 1 x.1).map some := rfl
theorem zb_selK (x : zb_D) : zw_sel (zb_W x) zb_isK (zq_W 0 x.2.1 ++ zp_W 58 x.1) := by
  refine zw_sel_of (zq_rnK x.2.1 x.1) ?_
  have h := zw_look1 (X1 := zb_o :: zp_W 1 x.1) (Y := zq_W 8 x.2.1) (X2 := zt_W x.2.2.1 ++ zr_W 67 x.2.2.2) (is := zb_is) rfl
  simp only [List.cons_append] at h
  show (zb_is ++ [1, 2, 3, 4, 5, 6, 7]).map (fun i => (zb_W x)[i]?) = (zq_W 8 x.2.1 ++ zp_W 1 x.1).map some
  rw [List.map_append, List.map_append]
  exact congr (congrArg _ h) (zb_lookP x)
theorem zb_upQ (x : zb_D) : zw_back (zb_W x) zb_is ((zq_W 0 x.2.1).map (zw_rE zb_is)) = zb_W x := by
  rw [zq_rn]
  refine zw_back_id _ _ _ ?_
  have h := zw_look1 (X1 := zb_o :: zp_W 1 x.1) (Y := zq_W 8 x.2.1) (X2 := zt_W x.2.2.1 ++ zr_W 67 x.2.2.2) (is := zb_is) rfl
  simp only [List.cons_append] at h
  exact h
theorem zb_upK (x : zb_D) (q : zq_D) (g : zp_D) : zw_back (zb_W x) zb_isK ((zq_W 0 q ++ zp_W 58 g).map (zw_rE zb_isK)) = zb_W (g, q, x.2.2) := by
  rw [zq_rnK]
  refine (zw_back_app zb_is [1, 2, 3, 4, 5, 6, 7] (zq_W 8 q) (zp_W 1 g) _ rfl).trans ?_
  have h2 : zw_back (zb_W x) [1, 2, 3, 4, 5, 6, 7] (zp_W 1 g) = zb_W (g, x.2) := zw_put1 (X1 := [zb_o]) (Y := zp_W 1 x.1) (Y' := zp_W 1 g) (X2 := zq_W 8 x.2.1 ++ (zt_W x.2.2.1 ++ zr_W 67 x.2.2.2)) (is := [1, 2, 3, 4, 5, 6, 7]) rfl rfl
  rw [h2]
  have h := zw_put1 (X1 := zb_o :: zp_W 1 g) (Y := zq_W 8 x.2.1) (Y' := zq_W 8 q) (X2 := zt_W x.2.2.1 ++ zr_W 67 x.2.2.2) (is := zb_is) rfl rfl
  simp only [List.cons_append] at h
  exact h
