/-! a constructor called: its object is cell b of the caller's world, what it makes comes at the end -/
theorem zw_ix_init {b n r j : Nat} (hj : j < r) : zw_ix (b :: List.range' n r) (j + 1) = n + j := by
  show (List.range' n r).getD j 0 = n + j
  rw [List.getD_eq_getElem?_getD, List.getElem?_range' hj]
  simp
section ZI
variable {p : Program} {l : Launch} {e : Env} {R : Room} {s : State} {m : MethodId} {args : Array Value} {below : List Frame} {meth : Method} {c : Code} {Q : State → Prop} {cc : ByteArray} {nL : Nat} {ret : Option FieldType} {own nm : String} {Ts : List Cond} {tb : List ExceptionTableEntry} {D : va_G} {dA : Nat → ClassId} {A : Nat → Prop} {ad0 : Nat → Nat} {n0 cells slots pc : Nat} {wl : List zw_E} {lv : List (Option Value)} {st : List Value}
theorem zw_initB {ad ad' : Nat → Nat} {H H1 : Heap} {b r : Nat} {w0 : zw_E} {new : List zw_E} (hb : b < wl.length) (hr : new.length = r) (hwf : zw_wf wl.length wl) (hwf0 : zw_wf (1 + r) (w0 :: new)) (hlt : wl.length + r < 1000) (hP : va_P D vwCl (zw_of dA ad wl) H) (hD : va_D A (zw_of dA ad wl)) (hA : ∀ q, H.size ≤ q → A q)
    (b1 : ad' 0 = ad b) (hP1 : va_P D vwCl (zw_of dA ad' (w0 :: new)) H1) (hD1 : va_D (fun q => q = ad b ∨ H.size ≤ q) (zw_of dA ad' (w0 :: new))) (hk : ∀ q : Nat, q < H.size → ¬ q = ad b → H1[q]? = H[q]?) :
    ∃ ad2 : Nat → Nat, (∀ k, k < wl.length ∨ 1000 ≤ k → ad2 k = ad k) ∧ (r = 0 → ad2 = ad) ∧ va_P D vwCl (zw_of dA ad2 (wl.set b (zw_rE (b :: List.range' wl.length r) w0) ++ new.map (zw_rE (b :: List.range' wl.length r)))) H1 ∧ va_D A (zw_of dA ad2 (wl.set b (zw_rE (b :: List.range' wl.length r) w0) ++ new.map (zw_rE (b :: List.range' wl.length r)))) := by
  have hD0 := zw_D_iff.mp hD
  have hD2 := zw_D_iff.mp hD1
  have hlen : (wl.set b (zw_rE (b :: List.range' wl.length r) w0) ++ new.map (zw_rE (b :: List.range' wl.length r))).length = wl.length + r := by rw [List.length_append, List.length_set, List.length_map, hr]
  have hl1 : (w0 :: new).length = 1 + r := by rw [List.length_cons, hr]; omega
  have hfresh : ∀ j, j < r → H.size ≤ ad' (j + 1) := by
    intro j hj
    rcases hD2.2 (j + 1) (by omega) with h | h
    · have := hD2.1 (j + 1) 0 (by omega) (by omega) (h.trans b1.symm)
      omega
    · exact h
  refine ⟨fun k => if wl.length ≤ k ∧ k < wl.length + r then ad' (k - wl.length + 1) else ad k, fun k hk => if_neg (by omega), fun h0 => funext fun k => if_neg (by omega), ?_, ?_⟩
  · generalize hg : (fun k => if wl.length ≤ k ∧ k < wl.length + r then ad' (k - wl.length + 1) else ad k) = g
    have g1 : ∀ k, k < wl.length → g k = ad k := fun k hk => by rw [← hg]; exact if_neg (by omega)
    have g2 : ∀ j, j < r → g (wl.length + j) = ad' (j + 1) := fun j hj => by
      rw [← hg]
      show (if wl.length ≤ wl.length + j ∧ wl.length + j < wl.length + r then ad' (wl.length + j - wl.length + 1) else _) = _
      rw [if_pos (by omega), show wl.length + j - wl.length + 1 = j + 1 by omega]
    have g3 : ∀ j, j < 1 + r → (fun j => g (zw_ix (b :: List.range' wl.length r) j)) j = ad' j := by
      intro j hj
      cases j with
      | zero => show g b = ad' 0; rw [g1 b hb, b1]
      | succ j => show g (zw_ix _ (j + 1)) = _; rw [zw_ix_init (by omega), g2 j (by omega)]
    have ge : ∀ e, e ∈ w0 :: new → zw_cE dA g (zw_rE (b :: List.range' wl.length r) e) = zw_cE dA ad' e := fun e he => by
      rw [zw_cE_rE]
      exact zw_cE_we g3 (hwf0 e he)
    intro k q hq
    obtain ⟨e1, he, rfl⟩ := zw_of_inv hq
    rcases Nat.lt_or_ge k wl.length with hkl | hkl
    · rw [List.getElem?_append_left (by rw [List.length_set]; exact hkl), List.getElem?_set] at he
      by_cases hkb : b = k
      · subst hkb
        rw [if_pos rfl, if_pos hb] at he
        cases he
        have h1 := hP1 0 _ (zw_of_at (e := w0) rfl)
        rw [ge w0 List.mem_cons_self, g1 b hb, ← b1]
        exact h1
      · rw [if_neg hkb] at he
        have h0 := hP k _ (zw_of_at he)
        rw [zw_cE_we g1 (hwf e1 (List.mem_of_getElem? he)), g1 k hkl]
        refine h0.kept (hk (ad k) (h0.lt) ?_)
        exact fun e9 => hkb (hD0.1 k b hkl hb e9).symm
    · rw [List.getElem?_append_right (by rw [List.length_set]; exact hkl), List.length_set, List.getElem?_map] at he
      obtain ⟨e2, he2, rfl⟩ := Option.map_eq_some_iff.mp he
      have hj := (List.getElem?_eq_some_iff.mp he2).1
      have h1 := hP1 (k - wl.length + 1) _ (zw_of_at (e := e2) (by rw [List.getElem?_cons_succ]; exact he2))
      rw [ge e2 (List.mem_cons_of_mem _ (List.mem_of_getElem? he2)), show k = wl.length + (k - wl.length) by omega, g2 _ (by omega)]
      exact h1
  · generalize hg : (fun k => if wl.length ≤ k ∧ k < wl.length + r then ad' (k - wl.length + 1) else ad k) = g
    have g1 : ∀ k, k < wl.length → g k = ad k := fun k hk => by rw [← hg]; exact if_neg (by omega)
    have g2 : ∀ k, wl.length ≤ k → k < wl.length + r → g k = ad' (k - wl.length + 1) := fun k h1 h2 => by
      rw [← hg]
      exact if_pos ⟨h1, h2⟩
    rw [zw_D_iff, hlen]
    have hlt0 : ∀ k, k < wl.length → ad k < H.size := fun k hk => (hP k _ (zw_of_at (List.getElem?_eq_getElem hk))).lt
    refine ⟨fun i j hi hj e9 => ?_, fun k hk => ?_⟩
    · rcases Nat.lt_or_ge i wl.length with h1 | h1 <;> rcases Nat.lt_or_ge j wl.length with h2 | h2
      · rw [g1 i h1, g1 j h2] at e9
        exact hD0.1 i j h1 h2 e9
      · rw [g1 i h1, g2 j h2 hj] at e9
        have h3 := hlt0 i h1
        have h4 := hfresh (j - wl.length) (by omega)
        omega
      · rw [g2 i h1 hi, g1 j h2] at e9
        have h3 := hlt0 j h2
        have h4 := hfresh (i - wl.length) (by omega)
        omega
      · rw [g2 i h1 hi, g2 j h2 hj] at e9
        have := hD2.1 (i - wl.length + 1) (j - wl.length + 1) (by omega) (by omega) e9
        omega
    · rcases Nat.lt_or_ge k wl.length with h1 | h1
      · rw [g1 k h1]
        exact hD0.2 k h1
      · rw [g2 k h1 hk]
        exact hA _ (hfresh _ (by omega))
theorem zs_initC {y : MethodName} {ws' ws'' : List Cond} {bytes : ByteArray} {maxL idx fr mc ms r : Nat} {e0 w0 : zw_E} {new : List zw_E} (b : Nat) (B : zw_B p l s m args meth c cc nL ret own nm Ts tb D dA A) (hM : zw_Sc l D dA y ws' fr mc ms [.ref 0] [e0] (fun v w => v = none ∧ w = w0 :: new))
    (gg : GoodIn Ts ws') (hw : ws' = Cond.code y bytes maxL none :: ws'') (hl9 : Cond.methodLink own idx y ∈ Ts) (hi9 : Cond.instanceMethod y ∈ Ts) (hini : Cond.initialized y.cls ∈ Ts) (hy1 : y.name = "<init>") (hd : y.cls ≠ "java/lang/invoke/MethodHandle" ∧ y.cls ≠ "java/lang/invoke/VarHandle" ∧ (parseMethodDescriptor y.desc).map (fun d => d.parameters.length) = some 0)
    (hb : wl[b]? = some e0) (he0 : ∀ is, zw_rE is e0 = e0) (hr : new.length = r) (hwf : zw_wf wl.length wl) (hwf0 : zw_wf (1 + r) (w0 :: new)) (hlt : wl.length + r < 1000) (hlv : lv.all (zw_lo wl.length) = true) (hst : st.all (zw_lw wl.length) = true)
    (hR : fr + 1 ≤ R.frames ∧ 8 + (maxL + 11) + 36 * fr ≤ R.locals) (hrest : (st.map fun v => v.category).sum ≤ 8) (hc : cells + mc ≤ R.cells ∧ slots + ms ≤ R.slots) (hdg : decode cc pc = .ok (.invokespecial idx, 3))
    (kk : zw_k p l e R s m args below meth c Q D dA A ad0 n0 nL (cells + mc) (slots + ms) (wl.set b (zw_rE (b :: List.range' wl.length r) w0) ++ new.map (zw_rE (b :: List.range' wl.length r))) (pc + 3) lv st) :
    zw_k p l e R s m args below meth c Q D dA A ad0 n0 nL cells slots wl pc lv (.ref b :: st) := fun ad H locs ls a1 a2 a3 hP hD hS hl => by
  have hts := B.2.2.2.2.2.1
  have hsel : zw_sel wl [b] [e0] := by
    show [wl[b]?] = [some (zw_rE [b] e0)]
    rw [hb, he0]
  obtain ⟨hp, hAA⟩ := zw_callPre (as := [.ref 0]) B hsel rfl hP hD hS rfl
  have hrun : va_Run p l e R s m args below meth c H locs cells slots mc ms (F0 m pc ls ((.ref b :: st).map (zw_cv ad))) (st.map (zw_cv ad)) (zw_Qc D dA [e0] (fun j => ad (zw_ix [b] j)) H.size (fun v w => v = none ∧ w = w0 :: new) (Value.ref (ad b) :: []).toArray) (zw_A (fun j => ad (zw_ix [b] j)) 1 H.size) :=
    va_runI (As := []) (n := 0) ⟨B.1, B.2.1, B.2.2.2.1, B.2.2.2.2.1, B.2.2.2.2.2.1⟩ (hM (fun j => ad (zw_ix [b] j)) H.size) (cwI 0 hts gg hw rfl rfl (hts _ hini) (hts _ hl9) (hts _ hi9) hy1 hd hR) hp rfl rfl hl.1 rfl (zw_rest8 hrest) hdg hc
  intro T hT X
  obtain ⟨v, st₀, t, T', L, h0, X', hL, e1, e2, ⟨⟨v', wl', ad', hv, ⟨rfl, rfl⟩, b1, b2, b3, hP1, hD1⟩, hF⟩, stp⟩ := hrun T hT X
  cases hv
  obtain ⟨k1, k2, k3⟩ := vx_keep h0 e1 hS (fun q _ h => hAA q h) hAA hL hF
  have hbl := zw_lt hb
  obtain ⟨ad2, f1, f2, f3, f4⟩ := zw_initB (H1 := T'.heap) hbl hr hwf hwf0 hlt hP hD (fun q h => B.2.2.2.2.2.2.2.2.2.1 q (Nat.le_trans hS.1 h)) (b1 0 (Nat.zero_lt_one)) (by rw [e1]; exact hP1) (hD1.weaken (fun k q _ h => by
    rcases h with ⟨j, hj, hq9⟩ | h
    · have : j = 0 := by have hj : j < 1 := hj; omega
      subst this
      exact Or.inl hq9
    · exact Or.inr h)) (fun q h1 h2 => k2 q h1 (fun h => by
    rcases h with ⟨j, hj, rfl⟩ | h
    · have : j = 0 := by have hj : j < 1 := hj; omega
      subst this
      exact h2 rfl
    · exact absurd h (Nat.not_le.mpr h1)))
  have hw := kk ad2 T'.heap (locs ++ L) ls (fun k hk => by
    rcases hk with hk | hk
    · rw [f1 k (Or.inl (Nat.lt_of_lt_of_le hk a3))]; exact a1 k (Or.inl hk)
    · rw [f1 k (Or.inr hk)]; exact a1 k (Or.inr hk)) (fun z => by
    rw [List.length_append, List.length_set, List.length_map, hr] at z
    rw [f2 (by omega)]
    exact a2 (by omega)) (by rw [List.length_append, List.length_set]; omega) f3 f4 k3 (zw_L_lo (fun k hk => (f1 k hk).symm) hlv hl)
  have e5 : st.map (zw_cv ad2) = st.map (zw_cv ad) := zw_st_lw f1 hst
  rw [e5] at hw
  obtain ⟨t2, q1, q2⟩ := hw T' rfl X'
  exact ⟨t2, stp t2 q1, q2⟩
theorem zs_initL {y : MethodName} {ws' ws'' : List Cond} {bytes : ByteArray} {maxL idx fr mc ms r : Nat} {e0 w0 : zw_E} {wl0 new wn : List zw_E} (B : zw_B p l s m args meth c cc nL ret own nm Ts tb D dA A) (hM : zw_Sc l D dA y ws' fr mc ms [.ref 0] [e0] (fun v w => v = none ∧ w = w0 :: new))
    (gg : GoodIn Ts ws') (hw : ws' = Cond.code y bytes maxL none :: ws'') (hl9 : Cond.methodLink own idx y ∈ Ts) (hi9 : Cond.instanceMethod y ∈ Ts) (hini : Cond.initialized y.cls ∈ Ts) (hy1 : y.name = "<init>") (hd : y.cls ≠ "java/lang/invoke/MethodHandle" ∧ y.cls ≠ "java/lang/invoke/VarHandle" ∧ (parseMethodDescriptor y.desc).map (fun d => d.parameters.length) = some 0)
    (he0 : ∀ is, zw_rE is e0 = e0) (hr : new.length = r) (hwf : zw_wf (wl0.length + 1) (wl0 ++ [e0])) (hwf0 : zw_wf (1 + r) (w0 :: new)) (hlt : wl0.length + 1 + r < 1000) (hlv : lv.all (zw_lo (wl0.length + 1)) = true) (hst : st.all (zw_lw (wl0.length + 1)) = true)
    (hR : fr + 1 ≤ R.frames ∧ 8 + (maxL + 11) + 36 * fr ≤ R.locals) (hrest : (st.map fun v => v.category).sum ≤ 8) (hc : cells + mc ≤ R.cells ∧ slots + ms ≤ R.slots) (hwn : (w0 :: new).map (zw_rE (List.range' wl0.length (r + 1))) = wn) (hdg : decode cc pc = .ok (.invokespecial idx, 3))
    (kk : zw_k p l e R s m args below meth c Q D dA A ad0 n0 nL (cells + mc) (slots + ms) (wl0 ++ wn) (pc + 3) lv st) :
    zw_k p l e R s m args below meth c Q D dA A ad0 n0 nL cells slots (wl0 ++ [e0]) pc lv (.ref wl0.length :: st) := by
  have hl : (wl0 ++ [e0]).length = wl0.length + 1 := by rw [List.length_append]; rfl
  refine zs_initC (e0 := e0) (w0 := w0) (new := new) wl0.length B hM gg hw hl9 hi9 hini hy1 hd (by rw [List.getElem?_append_right (Nat.le_refl _), Nat.sub_self]; rfl) he0 hr (by rw [hl]; exact hwf) hwf0 (by rw [hl]; exact hlt) (by rw [hl]; exact hlv) (by rw [hl]; exact hst) hR hrest hc hdg ?_
  refine zs_eq (wl' := wl0 ++ wn) ?_ rfl rfl rfl kk
  subst hwn
  rw [hl, List.set_append_right _ _ (Nat.le_refl _), Nat.sub_self, List.append_assoc]
  rfl
end ZI
