/-! a call with a part of the world: is = the places of the callee's cells in the caller's world -/
abbrev zw_ix (is : List Nat) : Nat → Nat := fun j => is.getD j 0
def zw_rE (is : List Nat) (e : zw_E) : zw_E := match e with
  | .inl (t, n, .inr (.inr (.inr (.inr f)))) => .inl (t, n, .inr (.inr (.inr (.inr (fun j => (f j).map (zw_ix is))))))
  | .inl x => .inl x
  | .inr q => .inr (q.1, q.2.map (zw_cv (zw_ix is)))
def zw_backA (wl : List zw_E) : List Nat → List zw_E → List zw_E
  | [], _ => wl
  | i :: is, es => match es with
    | [] => wl
    | e :: es => (zw_backA wl is es).set i e
abbrev zw_back (wl : List zw_E) (is : List Nat) (es : List zw_E) : List zw_E := zw_backA wl is es
theorem zw_cv_cv (f g : Nat → Nat) (v : Value) : zw_cv f (zw_cv g v) = zw_cv (fun j => f (g j)) v := by cases v <;> rfl
theorem zw_cE_rE (dA : Nat → ClassId) (ad : Nat → Nat) (is : List Nat) (e : zw_E) : zw_cE dA ad (zw_rE is e) = zw_cE dA (fun j => ad (zw_ix is j)) e := by
  cases e with
  | inl x =>
    obtain ⟨t, n, x⟩ := x
    match x with
    | .inl f => rfl
    | .inr (.inl f) => rfl
    | .inr (.inr (.inl f)) => rfl
    | .inr (.inr (.inr (.inl f))) => rfl
    | .inr (.inr (.inr (.inr f))) =>
      show (.inl (dA t, n, .inr (.inr (.inr (.inr (fun j => ((f j).map (zw_ix is)).map ad)))))  : va_E) = .inl (dA t, n, .inr (.inr (.inr (.inr (fun j => (f j).map (fun j => ad (zw_ix is j)))))))
      have : (fun j => ((f j).map (zw_ix is)).map ad) = (fun j => (f j).map (fun j => ad (zw_ix is j))) := by
        funext j
        rw [Option.map_map]
        rfl
      rw [this]
  | inr q =>
    show (.inr (q.1, (q.2.map (zw_cv (zw_ix is))).map (zw_cv ad)) : va_E) = .inr (q.1, q.2.map (zw_cv (fun j => ad (zw_ix is j))))
    rw [List.map_map]
    have : (zw_cv ad ∘ zw_cv (zw_ix is)) = zw_cv (fun j => ad (zw_ix is j)) := funext fun v => zw_cv_cv _ _ v
    rw [this]
theorem zw_back_len : ∀ (is : List Nat) (es wl : List zw_E), (zw_back wl is es).length = wl.length
  | [], _, _ => rfl
  | _ :: _, [], _ => rfl
  | i :: is, e :: es, wl => by
    show ((zw_back wl is es).set i e).length = _
    rw [List.length_set, zw_back_len]
theorem zw_back_out : ∀ (is : List Nat) (es wl : List zw_E) (k : Nat), k ∉ is → (zw_back wl is es)[k]? = wl[k]?
  | [], _, _, _, _ => rfl
  | _ :: _, [], _, _, _ => rfl
  | i :: is, e :: es, wl, k, h => by
    show ((zw_back wl is es).set i e)[k]? = _
    rw [List.getElem?_set, if_neg (fun q => h (by rw [q]; exact List.mem_cons_self))]
    exact zw_back_out is es wl k (fun q => h (List.mem_cons_of_mem _ q))
theorem zw_back_in : ∀ (is : List Nat) (es wl : List zw_E) (j k : Nat), is.Nodup → is.length = es.length → (∀ i ∈ is, i < wl.length) → is[j]? = some k → (zw_back wl is es)[k]? = es[j]?
  | [], _, _, _, _, _, _, _, h => by cases h
  | _ :: _, [], _, _, _, _, h, _, _ => by cases h
  | i :: is, e :: es, wl, j, k, hn, hl, hb, h => by
    show ((zw_back wl is es).set i e)[k]? = _
    rw [List.getElem?_set, zw_back_len]
    have hn2 := List.nodup_cons.mp hn
    cases j with
    | zero =>
      cases h
      rw [if_pos rfl, if_pos (hb i List.mem_cons_self)]
      rfl
    | succ j =>
      have hk : k ∈ is := List.mem_of_getElem? h
      rw [if_neg (fun (q : i = k) => hn2.1 (by rw [q]; exact hk))]
      exact zw_back_in is es wl j k hn2.2 (Nat.succ.inj hl) (fun i hi => hb i (List.mem_cons_of_mem _ hi)) h
/-- the callee's cells, found in the caller's world -/
def zw_sel (wl : List zw_E) (is : List Nat) (wlc : List zw_E) : Prop := is.map (fun i => wl[i]?) = wlc.map (fun e => some (zw_rE is e))
theorem zw_sel_len {wl : List zw_E} {is : List Nat} {wlc : List zw_E} (h : zw_sel wl is wlc) : is.length = wlc.length := by
  have := congrArg List.length h
  rwa [List.length_map, List.length_map] at this
theorem zw_sel_at {wl : List zw_E} {is : List Nat} {wlc : List zw_E} (h : zw_sel wl is wlc) {j : Nat} {e : zw_E} (hj : wlc[j]? = some e) : ∃ i, is[j]? = some i ∧ wl[i]? = some (zw_rE is e) ∧ zw_ix is j = i := by
  have h1 := congrArg (fun l => l[j]?) h
  simp only [List.getElem?_map, hj, Option.map_some] at h1
  cases hi : is[j]? with
  | none => rw [hi] at h1; cases h1
  | some i =>
    rw [hi] at h1
    refine ⟨i, rfl, Option.some.inj h1, ?_⟩
    show is.getD j 0 = i
    rw [List.getD_eq_getElem?_getD, hi]; rfl
theorem zw_nd : ∀ {is : List Nat}, va_nd is = true → is.Nodup
  | [], _ => List.nodup_nil
  | a :: l, h => by
    unfold va_nd at h
    simp only [Bool.and_eq_true, decide_eq_true_eq] at h
    exact List.nodup_cons.mpr ⟨h.1, zw_nd h.2⟩
/-- the world behind a call that makes no cells -/
theorem zw_behind {D : va_G} {dA : Nat → ClassId} {A : Nat → Prop} {ad : Nat → Nat} {wl wlc wl' : List zw_E} {is : List Nat} {H H1 : Heap} (hsel : zw_sel wl is wlc) (hnd : va_nd is = true) (hP : va_P D vwCl (zw_of dA ad wl) H) (hD : va_D A (zw_of dA ad wl))
    (hlen : wl'.length = wlc.length) (hP1 : va_P D vwCl (zw_of dA (fun j => ad (zw_ix is j)) wl') H1) (hk : ∀ q : Nat, q < H.size → ¬ zw_A (fun j => ad (zw_ix is j)) wlc.length H.size q → H1[q]? = H[q]?) :
    va_P D vwCl (zw_of dA ad (zw_back wl is (wl'.map (zw_rE is)))) H1 ∧ va_D A (zw_of dA ad (zw_back wl is (wl'.map (zw_rE is)))) := by
  have hl := zw_sel_len hsel
  have hb : ∀ i ∈ is, i < wl.length := by
    intro i hi
    obtain ⟨j, hj⟩ := List.getElem?_of_mem hi
    have hjl : j < wlc.length := by rw [← hl]; exact (List.getElem?_eq_some_iff.mp hj).1
    obtain ⟨i', h1, h2, -⟩ := zw_sel_at hsel (List.getElem?_eq_getElem hjl)
    rw [hj] at h1
    cases h1
    exact zw_lt h2
  have hD0 := zw_D_iff.mp hD
  constructor
  · intro k q hq
    obtain ⟨e, he, rfl⟩ := zw_of_inv hq
    by_cases hki : k ∈ is
    · obtain ⟨j, hj⟩ := List.getElem?_of_mem hki
      rw [zw_back_in is _ wl j k (zw_nd hnd) (by rw [List.length_map, hl, hlen]) hb hj, List.getElem?_map] at he
      cases hw : wl'[j]? with
      | none => rw [hw] at he; cases he
      | some e' =>
        rw [hw] at he
        cases he
        have h1 := hP1 j _ (zw_of_at hw)
        rw [zw_cE_rE]
        have h2 : zw_ix is j = k := by
          show is.getD j 0 = k
          rw [List.getD_eq_getElem?_getD, hj]; rfl
        rw [h2] at h1
        exact h1
    · rw [zw_back_out is _ wl k hki] at he
      have h0 := hP k _ (zw_of_at he)
      refine h0.kept (hk (ad k) (h0.lt) ?_)
      rintro (⟨j, hj, e1⟩ | h2)
      · obtain ⟨i, h1, h2, h3⟩ := zw_sel_at hsel (List.getElem?_eq_getElem hj)
        have e2 : ad k = ad i := e1.trans (by show ad (zw_ix is j) = ad i; rw [h3])
        have := hD0.1 k i (zw_lt he) (zw_lt h2) e2
        exact hki (this ▸ List.mem_of_getElem? h1)
      · exact absurd (h0.lt) (Nat.not_lt.mpr h2)
  · rw [zw_D_iff, zw_back_len]
    exact hD0
section ZC
variable {p : Program} {l : Launch} {e : Env} {R : Room} {s : State} {m : MethodId} {args : Array Value} {below : List Frame} {meth : Method} {c : Code} {Q : State → Prop} {cc : ByteArray} {nL : Nat} {ret : Option FieldType} {own nm : String} {Ts : List Cond} {tb : List ExceptionTableEntry} {D : va_G} {dA : Nat → ClassId} {A : Nat → Prop} {ad0 : Nat → Nat} {n0 cells slots pc : Nat} {wl wlc : List zw_E} {lv : List (Option Value)} {rest : List Value}
/-- thrown over the frame: what follows -/
def zw_x (p : Program) (l : Launch) (e : Env) (R : Room) (s : State) (m : MethodId) (args : Array Value) (below : List Frame) (meth : Method) (c : Code) (Q : State → Prop) (D : va_G) (dA : Nat → ClassId) (A : Nat → Prop) (ad0 : Nat → Nat) (n0 nL : Nat) (cells slots : Nat) (E : String) (wl : List zw_E) (pc : Nat) (lv : List (Option Value)) (st : List Value) : Prop :=
  ∀ (ad : Nat → Nat) (H : Heap) (locs : List Loc) (ls : Array Slot) (q : Addr) (ce : Cell), (∀ k, k < n0 ∨ 1000 ≤ k → ad k = ad0 k) → (wl.length = n0 → ad = ad0) → n0 ≤ wl.length → va_P D vwCl (zw_of dA ad wl) H → va_D A (zw_of dA ad wl) → va_S A s.heap H locs → zw_L ls nL ad lv → H[q]? = some ce → ce.vm = .none → s.vm.findClass E = some ce.cls → vx_W p l e R s m args below meth c H locs cells slots Q (F0 m pc ls (st.map (zw_cv ad))) q
theorem zw_callPre {as : List Value} {ad : Nat → Nat} {H : Heap} {locs : List Loc} {is : List Nat} {As : List Value} (B : zw_B p l s m args meth c cc nL ret own nm Ts tb D dA A) (hsel : zw_sel wl is wlc) (hnd : va_nd is = true) (hP : va_P D vwCl (zw_of dA ad wl) H) (hD : va_D A (zw_of dA ad wl)) (hS : va_S A s.heap H locs) (hAs : As = (as.map (zw_cv (zw_ix is))).map (zw_cv ad)) :
    PreS s H (zw_Pc D dA as wlc (fun j => ad (zw_ix is j)) H.size) As ∧ (∀ q, zw_A (fun j => ad (zw_ix is j)) wlc.length H.size q → A q) := by
  have hD0 := zw_D_iff.mp hD
  have hAA : ∀ q, zw_A (fun j => ad (zw_ix is j)) wlc.length H.size q → A q := by
    rintro q (⟨j, hj, rfl⟩ | h)
    · obtain ⟨i, h1, h2, h3⟩ := zw_sel_at hsel (List.getElem?_eq_getElem hj)
      show A (ad (zw_ix is j))
      rw [h3]
      exact hD0.2 i (zw_lt h2)
    · exact B.2.2.2.2.2.2.2.2.2.1 q (Nat.le_trans hS.1 h)
  refine ⟨⟨?_, ?_⟩, hAA⟩
  · rintro a U g mk ⟨q0, q1, q2, q3, q4, q5⟩
    exact ⟨q0, q1, q2, q3, zw_K.same (s := U) (U := U.calling g mk a) rfl q4, vx_Zq.moved (Vm.Alike.refl U.vm) q5.1, vx_Zq.moved (Vm.Alike.refl U.vm) q5.2⟩
  · intro U hU hW
    have hz : zw_Z A U H := ⟨vx_Zq.moved hW.alike (B.2.2.2.2.2.2.2.1.1.kept hS.2.1), vx_Zq.moved hW.alike (B.2.2.2.2.2.2.2.1.2.kept hS.2.1)⟩
    refine ⟨?_, by rw [hU], ?_, ?_, zw_K.warm hW B.2.2.2.2.2.2.1, ?_, ?_⟩
    · rw [hAs, List.map_map]
      congr 2
      exact funext fun v => zw_cv_cv _ _ v
    · rw [hU]
      intro j q hq
      obtain ⟨e1, he, rfl⟩ := zw_of_inv hq
      obtain ⟨i, h1, h2, h3⟩ := zw_sel_at hsel he
      have := hP i _ (zw_of_at h2)
      rw [zw_cE_rE] at this
      show va_at D vwCl (ad (zw_ix is j), _) H
      rw [h3]
      exact this
    · rw [zw_D_iff]
      refine ⟨fun j1 j2 h1 h2 e1 => ?_, fun _ _ => trivial⟩
      obtain ⟨i1, a1, a2, a3⟩ := zw_sel_at hsel (List.getElem?_eq_getElem h1)
      obtain ⟨i2, b1, b2, b3⟩ := zw_sel_at hsel (List.getElem?_eq_getElem h2)
      have e2 : ad i1 = ad i2 := by
        have : ad (zw_ix is j1) = ad (zw_ix is j2) := e1
        rwa [a3, b3] at this
      have e3 := hD0.1 i1 i2 (zw_lt a2) (zw_lt b2) e2
      subst e3
      exact va_nd_inj is hnd j1 j2 i1 a1 b1
    · rw [hU]; exact vx_Zq.narrow hz.1 hAA
    · rw [hU]; exact vx_Zq.narrow hz.2 hAA
theorem zw_runs {mc ms : Nat} {post : Option Value → List zw_E → Prop} {px : String → List zw_E → Prop} {is : List Nat} {ad : Nat → Nat} {H : Heap} {locs : List Loc} {ls : Array Slot} {st0 : List Value} {a9 : Array Value} (B : zw_B p l s m args meth c cc nL ret own nm Ts tb D dA A) (hsel : zw_sel wl is wlc) (hnd : va_nd is = true)
    (hlen : ∀ v wl', post v wl' → wl'.length = wlc.length) (hlx : ∀ E wl', px E wl' → wl'.length = wlc.length)
    (kx : ∀ E wl', px E wl' → zw_x p l e R s m args below meth c Q D dA A ad0 n0 nL (cells + mc) (slots + ms) E (zw_back wl is (wl'.map (zw_rE is))) pc lv rest)
    (kk : ∀ v wl', post v wl' → zw_k p l e R s m args below meth c Q D dA A ad0 n0 nL (cells + mc) (slots + ms) (zw_back wl is (wl'.map (zw_rE is))) (pc + 3) lv ((v.map (zw_cv (zw_ix is))).toList ++ rest))
    (a1 : ∀ k, k < n0 ∨ 1000 ≤ k → ad k = ad0 k) (a2 : wl.length = n0 → ad = ad0) (a3 : n0 ≤ wl.length) (hP : va_P D vwCl (zw_of dA ad wl) H) (hD : va_D A (zw_of dA ad wl)) (hS : va_S A s.heap H locs) (hl : zw_L ls nL ad lv) (hAA : ∀ q, zw_A (fun j => ad (zw_ix is j)) wlc.length H.size q → A q)
    (hr : vx_Run p l e R s m args below meth c H locs cells slots mc ms (F0 m pc ls st0) (rest.map (zw_cv ad)) (zw_Qc D dA wlc (fun j => ad (zw_ix is j)) H.size post a9) (zw_XC D dA wlc (fun j => ad (zw_ix is j)) H.size px) (zw_A (fun j => ad (zw_ix is j)) wlc.length H.size)) : W p l e R s m args below meth c H locs cells slots Q (F0 m pc ls st0) := by
  intro T hT X
  rcases hr T hT X with ⟨v, st₀, t, T', L, h0, X', hL, e1, e2, ⟨⟨v', wl', ad', hv, hpost, b1, b2, b3, hP1, hD1⟩, hF⟩, stp⟩ | ⟨q, st₀, t, T', L, E, ce, h0, X', hL, e1, e2, ⟨⟨wl', ad', hpost, b1, b2, b3, hP1, hD1⟩, hF⟩, hce, hcv, hcl, stp⟩
  · have e3 := b2 (hlen _ _ hpost)
    subst e3
    cases hv
    obtain ⟨k1, k2, k3⟩ := vx_keep h0 e1 hS (fun q _ h => hAA q h) hAA hL hF
    obtain ⟨hPn, hDn⟩ := zw_behind (H1 := T'.heap) hsel hnd hP hD (hlen _ _ hpost) (by rw [e1]; exact hP1) k2
    have hw := kk v' wl' hpost ad T'.heap (locs ++ L) ls a1 (by rw [zw_back_len]; exact a2) (by rw [zw_back_len]; exact a3) hPn hDn k3 hl
    have e5 : ((v'.map (zw_cv (zw_ix is))).toList ++ rest).map (zw_cv ad) = (v'.map (zw_cv (fun j => ad (zw_ix is j)))).toList ++ rest.map (zw_cv ad) := by
      cases v' with
      | none => rfl
      | some v' => simp [zw_cv_cv]
    rw [e5] at hw
    obtain ⟨t2, q1, q2⟩ := hw T' rfl X'
    exact ⟨t2, stp t2 q1, q2⟩
  · have e3 := b2 (hlx _ _ hpost)
    subst e3
    obtain ⟨k1, k2, k3⟩ := vx_keep h0 e1 hS (fun q _ h => hAA q h) hAA hL hF
    obtain ⟨hPn, hDn⟩ := zw_behind (H1 := T'.heap) hsel hnd hP hD (hlx _ _ hpost) (by rw [e1]; exact hP1) k2
    obtain ⟨t2, q1, q2⟩ := kx E wl' hpost ad T'.heap (locs ++ L) ls q ce a1 (by rw [zw_back_len]; exact a2) (by rw [zw_back_len]; exact a3) hPn hDn k3 hl (by rw [e1]; exact hce) hcv hcl T' rfl X'
    exact ⟨t2, stp.trans q1, q2⟩
theorem zw_rest8 {ad : Nat → Nat} (h : (rest.map fun v => v.category).sum ≤ 8) {ls : Array Slot} {st0 : List Value} : 2 * (F0 m pc ls st0).monitorRoom + ((rest.map (zw_cv ad)).map fun v => v.category).sum ≤ 8 := by
  refine lv_room ?_
  rw [List.map_map]
  rw [show ((fun v : Value => v.category) ∘ zw_cv ad) = fun v => v.category from funext fun v => zw_cv_cat ad v]
  exact h
/-- an instance method called -/
theorem zs_callV {y : MethodName} {ws' ws'' : List Cond} {bytes : ByteArray} {maxL idx n fr mc ms : Nat} {ret' : Option FieldType} {as : List Value} {b : Nat} {post : Option Value → List zw_E → Prop} {px : String → List zw_E → Prop} {C : String} {T9 : u_T} {N9 ci : Nat} {fs : List Value} (is : List Nat) (B : zw_B p l s m args meth c cc nL ret own nm Ts tb D dA A) (hM : zw_Sp l D dA y ws' fr mc ms (.ref b :: as) wlc post px)
    (gg : GoodIn Ts (wsV own idx C y ws')) (hw : ws' = Cond.code y bytes maxL ret' :: ws'') (hd : y.cls = C ∧ y.cls ≠ "java/lang/invoke/MethodHandle" ∧ y.cls ≠ "java/lang/invoke/VarHandle" ∧ (parseMethodDescriptor y.desc).map (fun d => d.parameters.length) = some n) (hn : as.length = n)
    (hsel : zw_sel wl is wlc) (hnd : va_nd is = true) (hb : wlc[b]? = some (.inr (ci, fs))) (hci : vwCl[ci]? = some (C, T9, N9)) {st : List Value} (hst : st = (as.map (zw_cv (zw_ix is))).reverse ++ .ref (zw_ix is b) :: rest) (hR : fr + 1 ≤ R.frames ∧ 8 + (maxL + 11) + 36 * fr ≤ R.locals) (hrest : (rest.map fun v => v.category).sum ≤ 8) (hc : cells + mc ≤ R.cells ∧ slots + ms ≤ R.slots)
    (hdg : decode cc pc = .ok (.invokevirtual idx, 3)) (hlen : ∀ v wl', post v wl' → wl'.length = wlc.length) (hlx : ∀ E wl', px E wl' → wl'.length = wlc.length)
    (kx : ∀ E wl', px E wl' → zw_x p l e R s m args below meth c Q D dA A ad0 n0 nL (cells + mc) (slots + ms) E (zw_back wl is (wl'.map (zw_rE is))) pc lv rest)
    (kk : ∀ v wl', post v wl' → zw_k p l e R s m args below meth c Q D dA A ad0 n0 nL (cells + mc) (slots + ms) (zw_back wl is (wl'.map (zw_rE is))) (pc + 3) lv ((v.map (zw_cv (zw_ix is))).toList ++ rest)) :
    zw_k p l e R s m args below meth c Q D dA A ad0 n0 nL cells slots wl pc lv st := fun ad H locs ls a1 a2 a3 hP hD hS hl => by
  obtain ⟨hp, hAA⟩ := zw_callPre (as := .ref b :: as) B hsel hnd hP hD hS rfl
  subst hst
  obtain ⟨i, h1, h2, h3⟩ := zw_sel_at hsel hb
  have hrec := va_recv (q := (C, T9, N9)) B.2.2.2.2.2.2.1.1 hP hci (zw_of_at h2)
  refine zw_runs (a9 := (Value.ref (ad (zw_ix is b)) :: (as.map (zw_cv (zw_ix is))).map (zw_cv ad)).toArray) B hsel hnd hlen hlx kx kk a1 a2 a3 hP hD hS hl hAA ?_
  refine vx_runV (As := (as.map (zw_cv (zw_ix is))).map (zw_cv ad)) (C := C) (n := n) (rm := zw_rm fr mc ms) ⟨B.1, B.2.1, B.2.2.2.1, B.2.2.2.2.1, B.2.2.2.2.2.1⟩ (hM (fun j => ad (zw_ix is j)) H.size) (cwV n B.2.2.2.2.2.1 gg hw rfl rfl hd hR) ⟨hp.1, by rw [h3]; exact hrec, hp.2⟩ rfl (by rw [List.length_map, List.length_map]; exact hn) hl.1 ?_ (zw_rest8 hrest) hdg hc
  show ((as.map (zw_cv (zw_ix is))).reverse ++ .ref (zw_ix is b) :: rest).map (zw_cv ad) = _
  rw [List.map_append, List.map_reverse]
  rfl
/-- a static method called -/
theorem zs_callS {y : MethodName} {ws' ws'' : List Cond} {bytes : ByteArray} {maxL idx n fr mc ms : Nat} {ret' : Option FieldType} {as : List Value} {post : Option Value → List zw_E → Prop} {px : String → List zw_E → Prop} (is : List Nat) (B : zw_B p l s m args meth c cc nL ret own nm Ts tb D dA A) (hM : zw_Sp l D dA y ws' fr mc ms as wlc post px)
    (gg : GoodIn Ts (va_wsS own idx y ws')) (hw : ws' = Cond.code y bytes maxL ret' :: ws'') (hd : y.cls ≠ "java/lang/invoke/MethodHandle" ∧ y.cls ≠ "java/lang/invoke/VarHandle" ∧ (parseMethodDescriptor y.desc).map (fun d => d.parameters.length) = some n) (hn : as.length = n)
    (hsel : zw_sel wl is wlc) (hnd : va_nd is = true) {st : List Value} (hst : st = (as.map (zw_cv (zw_ix is))).reverse ++ rest) (hR : fr + 1 ≤ R.frames ∧ 8 + (maxL + 11) + 36 * fr ≤ R.locals) (hrest : (rest.map fun v => v.category).sum ≤ 8) (hc : cells + mc ≤ R.cells ∧ slots + ms ≤ R.slots)
    (hdg : decode cc pc = .ok (.invokestatic idx, 3)) (hlen : ∀ v wl', post v wl' → wl'.length = wlc.length) (hlx : ∀ E wl', px E wl' → wl'.length = wlc.length)
    (kx : ∀ E wl', px E wl' → zw_x p l e R s m args below meth c Q D dA A ad0 n0 nL (cells + mc) (slots + ms) E (zw_back wl is (wl'.map (zw_rE is))) pc lv rest)
    (kk : ∀ v wl', post v wl' → zw_k p l e R s m args below meth c Q D dA A ad0 n0 nL (cells + mc) (slots + ms) (zw_back wl is (wl'.map (zw_rE is))) (pc + 3) lv ((v.map (zw_cv (zw_ix is))).toList ++ rest)) :
    zw_k p l e R s m args below meth c Q D dA A ad0 n0 nL cells slots wl pc lv st := fun ad H locs ls a1 a2 a3 hP hD hS hl => by
  obtain ⟨hp, hAA⟩ := zw_callPre (as := as) B hsel hnd hP hD hS rfl
  subst hst
  refine zw_runs (a9 := ((as.map (zw_cv (zw_ix is))).map (zw_cv ad)).toArray) B hsel hnd hlen hlx kx kk a1 a2 a3 hP hD hS hl hAA ?_
  refine vx_runS (As := (as.map (zw_cv (zw_ix is))).map (zw_cv ad)) (n := n) (rm := zw_rm fr mc ms) ⟨B.1, B.2.1, B.2.2.2.1, B.2.2.2.2.1, B.2.2.2.2.2.1⟩ (hM (fun j => ad (zw_ix is j)) H.size) (va_cwS n B.2.2.2.2.2.1 gg hw rfl rfl hd hR) ⟨hp.1, hp.2⟩ rfl (by rw [List.length_map, List.length_map]; exact hn) hl.1 ?_ (zw_rest8 hrest) hdg hc
  show ((as.map (zw_cv (zw_ix is))).reverse ++ rest).map (zw_cv ad) = _
  rw [List.map_append, List.map_reverse]
/-- .. that has a table of its own -/
theorem zs_callSW {y : MethodName} {ws' ws'' : List Cond} {bytes : ByteArray} {maxL idx n fr mc ms : Nat} {ret' : Option FieldType} {hh : List (Nat × Nat × Nat × Nat)} {as : List Value} {post : Option Value → List zw_E → Prop} {px : String → List zw_E → Prop} (is : List Nat) (B : zw_B p l s m args meth c cc nL ret own nm Ts tb D dA A) (hM : zw_Sp l D dA y ws' fr mc ms as wlc post px)
    (gg : GoodIn Ts (va_wsS own idx y ws')) (hw : ws' = Cond.codeWith y bytes maxL ret' hh :: ws'') (hd : y.cls ≠ "java/lang/invoke/MethodHandle" ∧ y.cls ≠ "java/lang/invoke/VarHandle" ∧ (parseMethodDescriptor y.desc).map (fun d => d.parameters.length) = some n) (hn : as.length = n)
    (hsel : zw_sel wl is wlc) (hnd : va_nd is = true) {st : List Value} (hst : st = (as.map (zw_cv (zw_ix is))).reverse ++ rest) (hR : fr + 1 ≤ R.frames ∧ 8 + (maxL + 11) + 36 * fr ≤ R.locals) (hrest : (rest.map fun v => v.category).sum ≤ 8) (hc : cells + mc ≤ R.cells ∧ slots + ms ≤ R.slots)
    (hdg : decode cc pc = .ok (.invokestatic idx, 3)) (hlen : ∀ v wl', post v wl' → wl'.length = wlc.length) (hlx : ∀ E wl', px E wl' → wl'.length = wlc.length)
    (kx : ∀ E wl', px E wl' → zw_x p l e R s m args below meth c Q D dA A ad0 n0 nL (cells + mc) (slots + ms) E (zw_back wl is (wl'.map (zw_rE is))) pc lv rest)
    (kk : ∀ v wl', post v wl' → zw_k p l e R s m args below meth c Q D dA A ad0 n0 nL (cells + mc) (slots + ms) (zw_back wl is (wl'.map (zw_rE is))) (pc + 3) lv ((v.map (zw_cv (zw_ix is))).toList ++ rest)) :
    zw_k p l e R s m args below meth c Q D dA A ad0 n0 nL cells slots wl pc lv st := fun ad H locs ls a1 a2 a3 hP hD hS hl => by
  obtain ⟨hp, hAA⟩ := zw_callPre (as := as) B hsel hnd hP hD hS rfl
  subst hst
  refine zw_runs (a9 := ((as.map (zw_cv (zw_ix is))).map (zw_cv ad)).toArray) B hsel hnd hlen hlx kx kk a1 a2 a3 hP hD hS hl hAA ?_
  refine vx_runSX (As := (as.map (zw_cv (zw_ix is))).map (zw_cv ad)) (n := n) (rm := zw_rm fr mc ms) ⟨B.1, B.2.1, B.2.2.2.1, B.2.2.2.2.1, B.2.2.2.2.2.1⟩ (hM (fun j => ad (zw_ix is j)) H.size) (vx_cwSW n B.2.2.2.2.2.1 gg hw rfl rfl hd hR) ⟨hp.1, hp.2⟩ rfl (by rw [List.length_map, List.length_map]; exact hn) hl.1 ?_ (zw_rest8 hrest) hdg hc
  show ((as.map (zw_cv (zw_ix is))).reverse ++ rest).map (zw_cv ad) = _
  rw [List.map_append, List.map_reverse]
/-- not caught here -/
theorem zs_xout {wl0 : List zw_E} {E : String} {mc ms : Nat} {post : Option Value → List zw_E → Prop} {px : String → List zw_E → Prop} (hA : A = zw_A ad0 wl0.length s.heap.size) (B : zw_B p l s m args meth c cc nL ret own nm Ts [] D dA A) (hc : cells ≤ mc) (hs : slots ≤ ms) (hx : px E wl) :
    zw_x p l e R s m args below meth c (vx_MQ below (zw_Qc D dA wl0 ad0 s.heap.size post) (zw_XC D dA wl0 ad0 s.heap.size px) args s mc ms A) D dA A ad0 wl0.length nL cells slots E wl pc lv rest := fun ad H locs ls q ce a1 a2 a3 hP hD hS hl hce hcv hcl => by
  refine vx_out (by rw [B.2.2.2.2.2.2.2.2.2.2.2.1]; intro x hx; cases hx) B.2.2.2.2.2.2.2.2.1 hce hcv hcl (fun t ht hvm => ?_) hS.2.2 hc hs
  exact ⟨⟨wl, ad, hx, fun k h => a1 k (Or.inl h), a2, a3, by rw [ht]; exact hP, by rw [← hA]; exact hD⟩, by rw [← hA]; exact hS.F ht⟩
/-- caught here, and put away by the handler's first instruction -/
theorem zs_xcatch {E : String} {k : Fin 4} {i : Nat} (B : zw_B p l s m args meth c cc nL ret own nm Ts tb D dA A) (pre : List ExceptionTableEntry) (x : ExceptionTableEntry) (suf : List ExceptionTableEntry) (hsplit : tb = pre ++ x :: suf)
    (hpass : ∀ z ∈ pre, z.catchType ≠ 0 ∧ ∃ n9 : String, Cond.classLink own z.catchType n9 ∈ Ts ∧ (E, n9) ∈ zw_noc) (hx : covers x pc = true) (h0 : x.catchType ≠ 0) (hlink : Cond.classLink own x.catchType E ∈ Ts) (hcast : (E, E) ∈ zw_cast)
    (hd : decode cc x.handlerPc = .ok (.astore_n k, 1)) (hi : (k : Nat) = i) (hn : i < nL) (ok : zw_ok lv i = true) (kk : zw_k p l e R s m args below meth c Q D dA A ad0 n0 nL cells slots wl (x.handlerPc + 1) (lv.set i none) []) :
    zw_x p l e R s m args below meth c Q D dA A ad0 n0 nL cells slots E wl pc lv rest := fun ad H locs ls q ce a1 a2 a3 hP hD hS hl hce hcv hcl => by
  have hts := B.2.2.2.2.2.1
  have hKK := B.2.2.2.2.2.2.1
  refine vx_catch (E := E) (name := E) B.2.2.2.2.1 pre x suf (B.2.2.2.2.2.2.2.2.2.2.2.1.trans hsplit) (fun z hz => ?_) hx h0 (hts _ hlink) (va_Nw.use rfl (hKK.2.2.2.1 _ hcast)) hce hcv hcl ?_
  · obtain ⟨z0, n9, z1, z2⟩ := hpass z hz
    exact Or.inr ⟨z0, n9, hts _ z1, hKK.2.2.2.2.1 _ z2⟩
  · refine lv_astore_n B.1 B.2.1 hd hi hl.has hn rfl (fun ls' hl' => kk ad H locs ls' a1 a2 a3 hP hD hS ?_)
    refine ⟨hl'.1, hl'.2.1, fun j w hw => ?_⟩
    rw [List.getElem?_set] at hw
    by_cases e0 : i = j
    · rw [if_pos e0] at hw
      split at hw <;> cases hw
    · rw [if_neg e0] at hw
      refine hl'.2.2 (j, zw_cv ad w) (List.mem_cons_of_mem _ (List.mem_filter.mpr ⟨zw_ents_mem.mpr ⟨w, hw, rfl⟩, ?_⟩))
      have e1 : (j == i) = false := by simp; exact fun q => e0 q.symm
      rw [e1]
      by_cases e2 : j + 1 = i
      · subst e2
        unfold zw_ok at ok
        dsimp only at ok
        rw [hw] at ok
        rw [zw_cv_cat]
        cases w <;> simp_all [Value.category]
      · have e3 : (j + 1 == i) = false := by simp; exact e2
        simp [e3]
end ZC
