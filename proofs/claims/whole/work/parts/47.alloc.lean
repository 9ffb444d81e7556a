/-! cells that are made: the world grows at its end -/
def zw_wv (n : Nat) (v : Value) : Bool := match v with
  | .ref k => decide (k < n)
  | _ => true
def zw_we (n : Nat) (e : zw_E) : Prop := match e with
  | .inl (_, _, .inr (.inr (.inr (.inr f)))) => ∀ j k, f j = some k → k < n
  | .inl _ => True
  | .inr q => q.2.all (zw_wv n) = true
def zw_wf (n : Nat) (wl : List zw_E) : Prop := ∀ e ∈ wl, zw_we n e
def zw_lw (n : Nat) (v : Value) : Bool := match v with
  | .ref k => decide (k < n) || decide (1000 ≤ k)
  | _ => true
def zw_lo (n : Nat) (o : Option Value) : Bool := match o with
  | some v => zw_lw n v
  | none => true
theorem zw_cv_wv {n : Nat} {f g : Nat → Nat} (h : ∀ k, k < n → f k = g k) {v : Value} (hv : zw_wv n v = true) : zw_cv f v = zw_cv g v := by
  cases v <;> first | rfl | exact congrArg Value.ref (h _ (of_decide_eq_true hv))
theorem zw_cv_lw {n : Nat} {f g : Nat → Nat} (h : ∀ k, k < n ∨ 1000 ≤ k → f k = g k) {v : Value} (hv : zw_lw n v = true) : zw_cv f v = zw_cv g v := by
  cases v <;> first | rfl | skip
  rename_i k
  have hv : (decide (k < n) || decide (1000 ≤ k)) = true := hv
  rw [Bool.or_eq_true, decide_eq_true_eq, decide_eq_true_eq] at hv
  exact congrArg Value.ref (h k hv)
theorem zw_cE_we {dA : Nat → ClassId} {n : Nat} {f g : Nat → Nat} (h : ∀ k, k < n → f k = g k) {e : zw_E} (he : zw_we n e) : zw_cE dA f e = zw_cE dA g e := by
  cases e with
  | inl x =>
    obtain ⟨t, m, x⟩ := x
    match x, he with
    | .inl f, _ => rfl
    | .inr (.inl f), _ => rfl
    | .inr (.inr (.inl f)), _ => rfl
    | .inr (.inr (.inr (.inl f))), _ => rfl
    | .inr (.inr (.inr (.inr a))), he =>
      show (.inl (dA t, m, .inr (.inr (.inr (.inr (fun j => (a j).map f))))) : va_E) = .inl (dA t, m, .inr (.inr (.inr (.inr (fun j => (a j).map g)))))
      have : (fun j => (a j).map f) = fun j => (a j).map g := by
        funext j
        cases ha : a j with
        | none => rfl
        | some k => exact congrArg some (h k (he j k ha))
      rw [this]
  | inr q =>
    show (.inr (q.1, q.2.map (zw_cv f)) : va_E) = .inr (q.1, q.2.map (zw_cv g))
    have : q.2.map (zw_cv f) = q.2.map (zw_cv g) := List.map_congr_left (fun v hv => zw_cv_wv h (List.all_eq_true.mp he v hv))
    rw [this]
theorem zw_of_wf {dA : Nat → ClassId} {n : Nat} {f g : Nat → Nat} (h : ∀ k, k < n → f k = g k) {wl : List zw_E} (hn : wl.length ≤ n) (hw : zw_wf n wl) : zw_of dA f wl = zw_of dA g wl := by
  refine List.ext_getElem? (fun k => ?_)
  rw [zw_of_get, zw_of_get]
  cases hk : wl[k]? with
  | none => rfl
  | some e =>
    have hlt := (List.getElem?_eq_some_iff.mp hk).1
    show some (f k, zw_cE dA f e) = some (g k, zw_cE dA g e)
    rw [h k (by omega), zw_cE_we h (hw e (List.mem_of_getElem? hk))]
theorem zw_of_app (dA : Nat → ClassId) (f : Nat → Nat) (wl : List zw_E) (e : zw_E) : zw_of dA f (wl ++ [e]) = zw_of dA f wl ++ [(f wl.length, zw_cE dA f e)] := by
  unfold zw_of
  rw [List.mapIdx_append]
  have : List.mapIdx (fun i e => (f (i + wl.length), zw_cE dA f e)) [e] = [(f wl.length, zw_cE dA f e)] := by simp
  rw [this]
theorem zw_L_lo {ls : Array Slot} {nL n : Nat} {f g : Nat → Nat} (h : ∀ k, k < n ∨ 1000 ≤ k → f k = g k) {lv : List (Option Value)} (hlv : lv.all (zw_lo n) = true) (hl : zw_L ls nL f lv) : zw_L ls nL g lv := by
  refine ⟨hl.1, hl.2.1, fun i v hv => ?_⟩
  rw [← zw_cv_lw h (List.all_eq_true.mp hlv (some v) (List.mem_of_getElem? hv))]
  exact hl.2.2 i v hv
theorem zw_st_lw {n : Nat} {f g : Nat → Nat} (h : ∀ k, k < n ∨ 1000 ≤ k → f k = g k) {st : List Value} (hst : st.all (zw_lw n) = true) : st.map (zw_cv f) = st.map (zw_cv g) :=
  List.map_congr_left (fun v hv => zw_cv_lw h (List.all_eq_true.mp hst v hv))
theorem zw_outer (c : ClassId) (N h0 : Nat) : ∀ i : Nat, Jvm.Free.Multi.outerC c N h0 i = arrV c N (fun j => va_rf (if j < i then some (h0 + 1 + j) else none))
  | 0 => by
    show ({ cls := c, slots := Array.replicate N .null, vm := .none } : Cell) = _
    rw [arrV_new]
    exact congrArg (arrV c N) (funext fun j => rfl)
  | i + 1 => by
    show (Jvm.Free.Multi.outerC c N h0 i).setSlot i (.ref (h0 + 1 + i)) = _
    rw [zw_outer c N h0 i, arrV_store]
    refine congrArg (arrV c N) (funext fun j => ?_)
    unfold updV
    show (if j = i then Value.ref (h0 + 1 + i) else va_rf (if j < i then some (h0 + 1 + j) else none)) = va_rf (if j < i + 1 then some (h0 + 1 + j) else none)
    by_cases e : j = i
    · rw [if_pos e, if_pos (by omega), e]
      rfl
    · rw [if_neg e]
      by_cases h : j < i
      · rw [if_pos h, if_pos (by omega)]
      · rw [if_neg h, if_neg (by omega)]
section ZA
variable {p : Program} {l : Launch} {e : Env} {R : Room} {s : State} {m : MethodId} {args : Array Value} {below : List Frame} {meth : Method} {c : Code} {Q : State → Prop} {cc : ByteArray} {nL : Nat} {ret : Option FieldType} {own nm : String} {Ts : List Cond} {tb : List ExceptionTableEntry} {D : va_G} {dA : Nat → ClassId} {A : Nat → Prop} {ad0 : Nat → Nat} {n0 cells slots pc : Nat} {wl : List zw_E} {lv : List (Option Value)} {st : List Value}
/-- one cell more -/
theorem zw_one {e0 : zw_E} {ve : va_E} {ad : Nat → Nat} {H : Heap} {locs : List Loc} {ls : Array Slot} {q : Nat} {pc' k' n' : Nat} (hwf : zw_wf wl.length wl) (hlt : wl.length < 1000) (hlv : lv.all (zw_lo wl.length) = true) (hst : st.all (zw_lw wl.length) = true)
    (hve : ∀ f, zw_cE dA f e0 = ve) (a1 : ∀ k, k < n0 ∨ 1000 ≤ k → ad k = ad0 k) (a3 : n0 ≤ wl.length) (hP : va_P D vwCl (zw_of dA ad wl ++ [(q, ve)]) H) (hD : va_D A (zw_of dA ad wl ++ [(q, ve)])) (hS : va_S A s.heap H locs) (hl : zw_L ls nL ad lv)
    (kk : zw_k p l e R s m args below meth c Q D dA A ad0 n0 nL k' n' (wl ++ [e0]) pc' lv (.ref wl.length :: st)) : W p l e R s m args below meth c H locs k' n' Q (F0 m pc' ls (.ref q :: st.map (zw_cv ad))) := by
  have hag : ∀ k, k < wl.length ∨ 1000 ≤ k → ad k = va_up ad wl.length q k := fun k hk => (va_up_ne ad q (by omega)).symm
  have hag2 : ∀ k, k < wl.length → ad k = va_up ad wl.length q k := fun k hk => hag k (Or.inl hk)
  have hw : zw_of dA ad wl ++ [(q, ve)] = zw_of dA (va_up ad wl.length q) (wl ++ [e0]) := by
    rw [zw_of_app, zw_of_wf hag2 (Nat.le_refl _) hwf, hve, va_up_self]
  rw [hw] at hP hD
  have hk := kk (va_up ad wl.length q) H locs ls (fun k hk => by rw [← hag k (by omega)]; exact a1 k hk) (fun z => by rw [List.length_append, List.length_singleton] at z; omega) (by rw [List.length_append, List.length_singleton]; omega) hP hD hS (zw_L_lo hag hlv hl)
  have e9 : (Value.ref wl.length :: st).map (zw_cv (va_up ad wl.length q)) = .ref q :: st.map (zw_cv ad) := by
    show Value.ref (va_up ad wl.length q wl.length) :: _ = _
    rw [va_up_self, zw_st_lw hag hst]
  rw [e9] at hk
  exact hk
theorem zs_new {idx ci : Nat} {C : String} {T : u_T} {N : Nat} {fs : List Value} (ty : Nat → FieldType) (B : zw_B p l s m args meth c cc nL ret own nm Ts tb D dA A) (hty : ∀ k, k < N → parseFieldDescriptor (T k).2.2.1 = some (ty k)) (hci : vwCl[ci]? = some (C, T, N)) (hin : ∀ w ∈ u_ws C T N, w ∈ Ts) (hcl : Cond.classLink own idx C ∈ Ts) (hinst : Cond.instantiable C N ∈ Ts) (hini : Cond.initialized C ∈ Ts)
    (hfs : ∀ j, j < N → defaultValue (ty j) = vp_V fs j) (hfr : ∀ f : Nat → Nat, fs.map (zw_cv f) = fs) (hwf : zw_wf wl.length wl) (hlt : wl.length < 1000) (hlv : lv.all (zw_lo wl.length) = true) (hst : st.all (zw_lw wl.length) = true) (hc : cells + 1 ≤ R.cells ∧ slots + N ≤ R.slots) (hdg : decode cc pc = .ok (.new idx, 3))
    (kk : zw_k p l e R s m args below meth c Q D dA A ad0 n0 nL (cells + 1) (slots + N) (wl ++ [.inr (ci, fs)]) (pc + 3) lv (.ref wl.length :: st)) : zw_k p l e R s m args below meth c Q D dA A ad0 n0 nL cells slots wl pc lv st := fun ad H locs ls a1 a2 a3 hP hD hS hl => by
  have hts := B.2.2.2.2.2.1
  refine va_new (ci := ci) (fs := fs) (C := C) (T := T) (N := N) B.1 B.2.1 hts hin ty hty B.2.2.2.2.1 (hts _ hcl) (hts _ hinst) (hts _ hini) B.2.2.2.2.2.2.1.1 hP hD hS B.2.2.2.2.2.2.2.2.2.1 hci hfs hc.1 hc.2 hdg (fun q H1 hP1 hD1 hS1 => ?_)
  exact zw_one (e0 := .inr (ci, fs)) hwf hlt hlv hst (fun f => by show (.inr (ci, fs.map (zw_cv f)) : va_E) = _; rw [hfr]) a1 a3 hP1 hD1 hS1 hl kk
theorem zw_dA {t : Nat} {ty : FieldType} {cA : ClassId} {D : va_G} {s : State} (hty : (zw_tys dA)[t]? = some (dA t, ty)) (hK : va_K D vwCl (zw_tys dA) s) (hK2 : va_K D vwCl (zw_tys dA ++ [(cA, ty)]) s) : cA = dA t := by
  have h1 := (hK.2 t _ hty).2
  have h2 := (hK2.2 (zw_tys dA).length (cA, ty) (by rw [List.getElem?_append_right (Nat.le_refl _), Nat.sub_self]; rfl)).2
  cases ty with
  | object C =>
    obtain ⟨_, _, _, _, _, h1⟩ := h1
    obtain ⟨_, _, _, _, _, h2⟩ := h2
    have h1 : s.vm.findClass ("[" ++ (FieldType.object C).toString) = some (dA t) := h1
    have h2 : s.vm.findClass ("[" ++ (FieldType.object C).toString) = some cA := h2
    rw [h1] at h2
    exact (Option.some.inj h2).symm
  | _ =>
    have h1 : s.vm.findClass _ = some (dA t) := h1
    have h2 : s.vm.findClass _ = some cA := h2
    rw [h1] at h2
    exact (Option.some.inj h2).symm
theorem zs_newa {atype : ArrayType} {t N : Nat} {n : Int32} {ty : FieldType} {a0 : vp_A} (B : zw_B p l s m args meth c cc nL ret own nm Ts tb D dA A) (hty : newarray.typeOf atype = ty) (htt : (zw_tys dA)[t]? = some (dA t, ty)) (harr : Cond.arrayClass ty ∈ Ts) (ha : ∀ cA : ClassId, vp_cell cA a0 = arrV cA N (fun _ => defaultValue ty)) (hve : ∀ f : Nat → Nat, zw_cA f a0 = a0) (hn : ¬ n < 0) (hN : n.toNatClampNeg = N) (hbytes : N * componentBytes ty ≤ 536870912)
    (hwf : zw_wf wl.length wl) (hlt : wl.length < 1000) (hlv : lv.all (zw_lo wl.length) = true) (hst : st.all (zw_lw wl.length) = true) (hc : cells + 1 ≤ R.cells ∧ slots + N ≤ R.slots) (hdg : decode cc pc = .ok (.newarray atype, 2))
    (kk : zw_k p l e R s m args below meth c Q D dA A ad0 n0 nL (cells + 1) (slots + N) (wl ++ [.inl (t, a0)]) (pc + 2) lv (.ref wl.length :: st)) : zw_k p l e R s m args below meth c Q D dA A ad0 n0 nL cells slots wl pc lv (.int n :: st) := fun ad H locs ls a1 a2 a3 hP hD hS hl => by
  have hts := B.2.2.2.2.2.1
  refine va_newa (ty := ty) (a0 := a0) (N' := N) B.1 B.2.1 (by rw [hty]; exact hts _ harr) hty B.2.2.2.2.2.2.1.1 hP hD hS B.2.2.2.2.2.2.2.2.2.1 ha hn hN hbytes hc.1 hc.2 hdg (fun q cA H1 hK1 hP1 hD1 hS1 => ?_)
  have e1 := zw_dA htt B.2.2.2.2.2.2.1.1 hK1
  subst e1
  exact zw_one (e0 := .inl (t, a0)) hwf hlt hlv hst (fun f => by show (.inl (dA t, zw_cA f a0) : va_E) = _; rw [hve]) a1 a3 hP1 hD1 hS1 hl kk
theorem zs_anew {idx t N : Nat} {n : Int32} {C : String} (B : zw_B p l s m args meth c cc nL ret own nm Ts tb D dA A) (htt : (zw_tys dA)[t]? = some (dA t, .object C)) (hcl : Cond.classLink own idx C ∈ Ts) (hover : va_AO C s) (hn : ¬ n < 0) (hN : n.toNatClampNeg = N) (hbytes : N * 4 ≤ 536870912)
    (hwf : zw_wf wl.length wl) (hlt : wl.length < 1000) (hlv : lv.all (zw_lo wl.length) = true) (hst : st.all (zw_lw wl.length) = true) (hc : cells + 1 ≤ R.cells ∧ slots + N ≤ R.slots) (hdg : decode cc pc = .ok (.anewarray idx, 3))
    (kk : zw_k p l e R s m args below meth c Q D dA A ad0 n0 nL (cells + 1) (slots + N) (wl ++ [.inl (t, N, .inr (.inr (.inr (.inr (fun _ => none)))))]) (pc + 3) lv (.ref wl.length :: st)) : zw_k p l e R s m args below meth c Q D dA A ad0 n0 nL cells slots wl pc lv (.int n :: st) := fun ad H locs ls a1 a2 a3 hP hD hS hl => by
  have hts := B.2.2.2.2.2.1
  refine va_newq (C := C) (N' := N) B.1 B.2.1 B.2.2.2.2.1 (hts _ hcl) hover B.2.2.2.2.2.2.1.1 hP hD hS B.2.2.2.2.2.2.2.2.2.1 hn hN hbytes hc.1 hc.2 hdg (fun q cA H1 hK1 hP1 hD1 hS1 => ?_)
  have e1 := zw_dA htt B.2.2.2.2.2.2.1.1 hK1
  subst e1
  exact zw_one (e0 := .inl (t, N, .inr (.inr (.inr (.inr (fun _ => none)))))) hwf hlt hlv hst (fun f => rfl) a1 a3 hP1 hD1 hS1 hl kk
theorem zs_objInit {idx a : Nat} (B : zw_B p l s m args meth c cc nL ret own nm Ts tb D dA A) (h1 : Cond.methodLink own idx Lib.objectInit ∈ Ts) (h2 : Cond.instanceMethod Lib.objectInit ∈ Ts) (h3 : Cond.code Lib.objectInit ⟨#[0xb1]⟩ 1 none ∈ Ts) (hR : 1 ≤ R.frames ∧ 20 ≤ R.locals) (hst : (st.map fun v => v.category).sum ≤ 8) (hdg : decode cc pc = .ok (.invokespecial idx, 3))
    (kk : zw_k p l e R s m args below meth c Q D dA A ad0 n0 nL cells slots wl (pc + 3) lv st) : zw_k p l e R s m args below meth c Q D dA A ad0 n0 nL cells slots wl pc lv (.ref a :: st) := fun ad H locs ls a1 a2 a3 hP hD hS hl => by
  have hts := B.2.2.2.2.2.1
  have h8 := zw_rest8 (m := m) (pc := pc) (ad := ad) hst (ls := ls) (st0 := (.ref a :: st).map (zw_cv ad))
  exact W.objInit B.1 B.2.1 B.2.2.2.2.1 (hts _ h1) (hts _ h2) (hts _ h3) rfl (hl.1.trans B.2.2.2.1.symm) rfl hdg hR.1 (by omega) (kk ad H locs ls a1 a2 a3 hP hD hS hl)
/-- a row of rows of int: the outer row, behind it the inner rows -/
theorem zs_mna {idx N K : Nat} {n k : Int32} (B : zw_B p l s m args meth c cc nL ret own nm Ts tb D dA A) (hcl : Cond.classLink own idx "[[I" ∈ Ts) (harr : Cond.arrayClass .int ∈ Ts) (hn : ¬ n < 0) (hk : ¬ k < 0) (hN : n.toNatClampNeg = N) (hM : k.toNatClampNeg = K) (hb1 : N * 4 ≤ 536870912) (hb2 : K * 4 ≤ 536870912)
    (hwf : zw_wf wl.length wl) (hlt : wl.length + 1 + N < 1000) (hlv : lv.all (zw_lo wl.length) = true) (hst : st.all (zw_lw wl.length) = true) (hc : cells + (1 + N) ≤ R.cells ∧ slots + (N + N * K) ≤ R.slots) (hdg : decode cc pc = .ok (.multianewarray idx 2, 4))
    (kk : zw_k p l e R s m args below meth c Q D dA A ad0 n0 nL (cells + 1 + N) (slots + N + N * K) (wl ++ .inl (4, N, .inr (.inr (.inr (.inr (fun i => if i < N then some (wl.length + 1 + i) else none))))) :: List.replicate N (.inl (0, K, .inl (fun _ => 0)))) (pc + 4) lv (.ref wl.length :: st)) : zw_k p l e R s m args below meth c Q D dA A ad0 n0 nL cells slots wl pc lv (.int k :: .int n :: st) := fun ad H locs ls a1 a2 a3 hP hD hS hl => by
  have hts := B.2.2.2.2.2.1
  have hK := B.2.2.2.2.2.2.1
  have hA := B.2.2.2.2.2.2.2.2.2.1
  subst hN
  subst hM
  intro T hT Xs
  obtain ⟨vm₁, cA, cy, -, fA, fC, -, -, X', step⟩ := Xs.multianewarray2F (ty := .int) B.1 B.2.2.2.2.1 (hts _ hcl) hK.2.2.2.2.2.2.1 (hts _ harr) (g := F0 m pc ls ((.int k :: .int n :: st).map (zw_cv ad))) rfl (by rw [B.2.1]; exact hdg) rfl hn hk hb1 hb2 (by omega) rfl rfl hc.1 hc.2
  have eA : cA = dA 4 := by
    have h1 : s.vm.findClass _ = some (dA 4) := (hK.1.2 4 (dA 4, .array .int) rfl).2
    exact Option.some.inj (fA.symm.trans h1)
  have eC : cy = dA 0 := by
    have h1 : s.vm.findClass _ = some (dA 0) := (hK.1.2 0 (dA 0, .int) rfl).2
    exact Option.some.inj (fC.symm.trans h1)
  subst eA
  subst eC
  generalize hF : Jvm.Free.Multi.fill (T.setVm vm₁) (dA 4) (dA 0) n.toNatClampNeg k.toNatClampNeg (defaultValue .int) n.toNatClampNeg = F at X' step
  have hTh : (T.setVm vm₁).heap = H := hT
  obtain ⟨f1, f2, -, -⟩ := Jvm.Free.Multi.fill_facts (T.setVm vm₁) (dA 4) (dA 0) n.toNatClampNeg k.toNatClampNeg (defaultValue .int) n.toNatClampNeg
  rw [hF, hTh] at f1 f2
  have hold : ∀ x : Nat, x < H.size → F.heap[x]? = H[x]? := fun x hx => by
    have := Jvm.Free.Multi.fill_old (T.setVm vm₁) (dA 4) (dA 0) n.toNatClampNeg k.toNatClampNeg (defaultValue .int) (a := x) (by rw [hTh]; exact hx) n.toNatClampNeg
    rw [hF, hTh] at this
    exact this
  have hz : Jvm.Free.Multi.innerC (dA 0) k.toNatClampNeg (defaultValue .int) = vp_cell (dA 0) (k.toNatClampNeg, .inl (fun _ => 0)) := arrV_new _ _ _
  have hrow : ∀ j : Nat, j < n.toNatClampNeg → F.heap[H.size + 1 + j]? = some (vp_cell (dA 0) (k.toNatClampNeg, .inl (fun _ => 0))) := fun j hj => by
    have := Jvm.Free.Multi.fill_inner (T.setVm vm₁) (dA 4) (dA 0) n.toNatClampNeg k.toNatClampNeg (defaultValue .int) n.toNatClampNeg j hj
    rw [hF, hTh, hz] at this
    exact this
  rw [zw_outer] at f2
  generalize n.toNatClampNeg = N at *
  generalize k.toNatClampNeg = K at *
  have hlt0 : ∀ k, k < wl.length → ad k < H.size := fun k hk => (hP k _ (zw_of_at (List.getElem?_eq_getElem hk))).lt
  have hD0 := zw_D_iff.mp hD
  obtain ⟨g, hg⟩ : ∃ g : Nat → Nat, g = fun k => if wl.length ≤ k ∧ k < wl.length + 1 + N then H.size + (k - wl.length) else ad k := ⟨_, rfl⟩
  have g1 : ∀ k, k < wl.length ∨ 1000 ≤ k → g k = ad k := fun k hk => by rw [hg]; exact if_neg (by omega)
  have g2 : ∀ j, j ≤ N → g (wl.length + j) = H.size + j := fun j hj => by
    rw [hg]
    show (if wl.length ≤ wl.length + j ∧ wl.length + j < wl.length + 1 + N then H.size + (wl.length + j - wl.length) else _) = _
    rw [if_pos (by omega), show wl.length + j - wl.length = j by omega]
  have hlen : (wl ++ ((.inl (4, N, .inr (.inr (.inr (.inr (fun i => if i < N then some (wl.length + 1 + i) else none))))) : zw_E) :: List.replicate N (.inl (0, K, .inl (fun _ => 0))))).length = wl.length + 1 + N := by rw [List.length_append, List.length_cons, List.length_replicate]; omega
  have hk := kk g F.heap locs ls (fun k hk => by rw [g1 k (by omega)]; exact a1 k hk) (fun z => by rw [hlen] at z; omega) (by rw [hlen]; omega) (fun k q hq => by
    obtain ⟨e1, he, rfl⟩ := zw_of_inv hq
    rcases Nat.lt_or_ge k wl.length with hkl | hkl
    · rw [List.getElem?_append_left hkl] at he
      have h0 := hP k _ (zw_of_at he)
      rw [zw_cE_we (fun k hk => g1 k (Or.inl hk)) (hwf e1 (List.mem_of_getElem? he)), g1 k (Or.inl hkl)]
      exact h0.kept (hold (ad k) (hlt0 k hkl))
    · rw [List.getElem?_append_right hkl] at he
      obtain ⟨j, rfl⟩ : ∃ j, k = wl.length + j := ⟨k - wl.length, by omega⟩
      rw [show wl.length + j - wl.length = j by omega] at he
      cases j with
      | zero =>
        cases he
        show va_at D vwCl (g (wl.length + 0), _) F.heap
        rw [g2 0 (Nat.zero_le _)]
        have e3 : zw_cE dA g (.inl (4, N, .inr (.inr (.inr (.inr (fun i => if i < N then some (wl.length + 1 + i) else none)))))) = .inl (dA 4, N, .inr (.inr (.inr (.inr (fun i => if i < N then some (H.size + 1 + i) else none))))) := by
          show (.inl (dA 4, N, .inr (.inr (.inr (.inr (fun i => (if i < N then some (wl.length + 1 + i) else none).map g))))) : va_E) = _
          have : (fun i => (if i < N then some (wl.length + 1 + i) else none).map g) = fun i => if i < N then some (H.size + 1 + i) else none := by
            funext i
            by_cases hi : i < N
            · rw [if_pos hi, if_pos hi]
              show some (g (wl.length + 1 + i)) = _
              rw [show wl.length + 1 + i = wl.length + (1 + i) by omega, g2 (1 + i) (by omega), show H.size + (1 + i) = H.size + 1 + i by omega]
            · rw [if_neg hi, if_neg hi]
              rfl
          rw [this]
        rw [e3]
        show F.heap[H.size + 0]? = some (vp_cell (dA 4) _)
        rw [vp_cell_q]
        exact f2
      | succ j =>
        rw [List.getElem?_cons_succ, List.getElem?_replicate] at he
        by_cases hj : j < N
        · rw [if_pos hj] at he
          cases he
          show va_at D vwCl (g (wl.length + (j + 1)), _) F.heap
          rw [g2 (j + 1) (by omega), show H.size + (j + 1) = H.size + 1 + j by omega]
          exact hrow j hj
        · rw [if_neg hj] at he
          cases he) (by
    rw [zw_D_iff, hlen]
    have hi : ∀ i, wl.length ≤ i → i < wl.length + 1 + N → g i = H.size + (i - wl.length) := fun i h1 h2 => by rw [hg]; exact if_pos ⟨h1, h2⟩
    refine ⟨fun i j h1 h2 e9 => ?_, fun k hk => ?_⟩
    · rcases Nat.lt_or_ge i wl.length with h3 | h3 <;> rcases Nat.lt_or_ge j wl.length with h4 | h4
      · rw [g1 i (Or.inl h3), g1 j (Or.inl h4)] at e9
        exact hD0.1 i j h3 h4 e9
      · rw [g1 i (Or.inl h3), hi j h4 h2] at e9
        have := hlt0 i h3
        omega
      · rw [hi i h3 h1, g1 j (Or.inl h4)] at e9
        have := hlt0 j h4
        omega
      · rw [hi i h3 h1, hi j h4 h2] at e9
        omega
    · rcases Nat.lt_or_ge k wl.length with h3 | h3
      · rw [g1 k (Or.inl h3)]
        exact hD0.2 k h3
      · rw [hi k h3 hk]
        exact hA _ (by have := hS.1; omega)) ⟨by rw [f1]; have := hS.1; omega, fun x h1 h2 => (hold x (Nat.lt_of_lt_of_le h1 hS.1)).trans (hS.2.1 x h1 h2), hS.2.2⟩ (zw_L_lo (fun k hk => (g1 k hk).symm) hlv hl)
  have e9 : (Value.ref wl.length :: st).map (zw_cv g) = .ref H.size :: st.map (zw_cv ad) := by
    show Value.ref (g (wl.length + 0)) :: _ = _
    rw [g2 0 (Nat.zero_le _), zw_st_lw (fun k hk => (g1 k hk).symm) hst]
    rfl
  rw [e9] at hk
  obtain ⟨t, b1, b2⟩ := hk F rfl X'
  refine ⟨t, step t ?_, b2⟩
  have e : T.heap.size = H.size := by rw [hT]
  rw [e]
  exact b1
end ZA
