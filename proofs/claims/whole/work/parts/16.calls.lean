/-! contracts over worlds; calls with a part of the world; ends -/
def zw_rm (fr mc ms : Nat) : Room := { frames := fr, cells := mc, slots := ms, locals := 36 * fr }
def zw_Pc (D : va_G) (dA : Nat → ClassId) (as : List Value) (wl : List zw_E) (ad : Nat → Nat) (sz : Nat) : Array Value → State → Prop :=
  va_Pc (as.map (zw_cv ad)) (fun U => U.heap.size = sz ∧ va_P D vwCl (zw_of dA ad wl) U.heap ∧ va_D (fun _ => True) (zw_of dA ad wl) ∧ zw_K D dA U ∧ zw_Z (zw_A ad wl.length sz) U U.heap)
def zw_Qc (D : va_G) (dA : Nat → ClassId) (wl : List zw_E) (ad : Nat → Nat) (sz : Nat) (post : Option Value → List zw_E → Prop) : Array Value → State → Outcome → State → Prop := fun _ st o t =>
  (∃ (v : Option Value) (wl' : List zw_E) (ad' : Nat → Nat), o = .returned (v.map (zw_cv ad')) ∧ post v wl' ∧ (∀ k, k < wl.length → ad' k = ad k) ∧ (wl'.length = wl.length → ad' = ad) ∧ wl.length ≤ wl'.length ∧ va_P D vwCl (zw_of dA ad' wl') t.heap ∧ va_D (zw_A ad wl.length sz) (zw_of dA ad' wl')) ∧ va_F (zw_A ad wl.length sz) st t
def zw_XC (D : va_G) (dA : Nat → ClassId) (wl : List zw_E) (ad : Nat → Nat) (sz : Nat) (px : String → List zw_E → Prop) : String → State → State → Prop := fun E st t =>
  (∃ (wl' : List zw_E) (ad' : Nat → Nat), px E wl' ∧ (∀ k, k < wl.length → ad' k = ad k) ∧ (wl'.length = wl.length → ad' = ad) ∧ wl.length ≤ wl'.length ∧ va_P D vwCl (zw_of dA ad' wl') t.heap ∧ va_D (zw_A ad wl.length sz) (zw_of dA ad' wl')) ∧ va_F (zw_A ad wl.length sz) st t
/-- the contract of a method that may throw -/
def zw_Sp (l : Launch) (D : va_G) (dA : Nat → ClassId) (y : MethodName) (ws : List Cond) (fr mc ms : Nat) (as : List Value) (wl : List zw_E) (post : Option Value → List zw_E → Prop) (px : String → List zw_E → Prop) : Prop :=
  ∀ (ad : Nat → Nat) (sz : Nat), vx_Met l y ws (zw_rm fr mc ms) (zw_Pc D dA as wl ad sz) (zw_Qc D dA wl ad sz post) (zw_XC D dA wl ad sz px) mc ms (zw_A ad wl.length sz)
/-- .. of one that makes cells and doesn't throw -/
def zw_Sc (l : Launch) (D : va_G) (dA : Nat → ClassId) (y : MethodName) (ws : List Cond) (fr mc ms : Nat) (as : List Value) (wl : List zw_E) (post : Option Value → List zw_E → Prop) : Prop :=
  ∀ (ad : Nat → Nat) (sz : Nat), Met l y ws (zw_rm fr mc ms) (zw_Pc D dA as wl ad sz) (zw_Qc D dA wl ad sz post) mc ms (zw_A ad wl.length sz)
theorem zw_D_iff {dA : Nat → ClassId} {ad : Nat → Nat} {A : Nat → Prop} {wl : List zw_E} : va_D A (zw_of dA ad wl) ↔ (∀ i j, i < wl.length → j < wl.length → ad i = ad j → i = j) ∧ ∀ k, k < wl.length → A (ad k) := by
  constructor
  · rintro ⟨h1, h2⟩
    refine ⟨fun i j hi hj e => ?_, fun k hk => ?_⟩
    · exact h1 i j _ _ (zw_of_at (List.getElem?_eq_getElem hi)) (zw_of_at (List.getElem?_eq_getElem hj)) e
    · exact h2 k _ (zw_of_at (List.getElem?_eq_getElem hk))
  · rintro ⟨h1, h2⟩
    refine ⟨fun i j p q hi hj e => ?_, fun k q hk => ?_⟩
    · obtain ⟨e1, w1, rfl⟩ := zw_of_inv hi
      obtain ⟨e2, w2, rfl⟩ := zw_of_inv hj
      exact h1 i j (zw_lt w1) (zw_lt w2) e
    · obtain ⟨e1, w1, rfl⟩ := zw_of_inv hk
      exact h2 k (zw_lt w1)
theorem zw_lg_sl {vs : List Value} (h : ∀ v ∈ vs, v.category = 1) : lg_sl vs = vs.map .val := by
  induction vs with
  | nil => rfl
  | cons v vs ih =>
    have h1 : ¬ v.category = 2 := by rw [h v List.mem_cons_self]; decide
    have h2 := ih (fun w hw => h w (List.mem_cons_of_mem _ hw))
    unfold lg_sl at h2 ⊢
    rw [List.flatMap_cons, h2, if_neg h1]
    rfl
theorem zw_lv_args {vs : List Value} (h : ∀ v ∈ vs, v.category = 1) : ∀ (o i : Nat) (v : Value), vs[i]? = some v → (o + i, v) ∈ lv_args o vs := by
  induction vs with
  | nil => intro o i v hv; cases hv
  | cons w vs ih =>
    intro o i v hv
    have h1 : ¬ w.category = 2 := by rw [h w List.mem_cons_self]; decide
    show (o + i, v) ∈ (o, w) :: lv_args (if w.category = 2 then o + 2 else o + 1) vs
    rw [if_neg h1]
    cases i with
    | zero =>
      cases hv
      exact List.mem_cons_self
    | succ i =>
      refine List.mem_cons_of_mem _ ?_
      have := ih (fun w hw => h w (List.mem_cons_of_mem _ hw)) (o + 1) i v hv
      rw [show o + (i + 1) = o + 1 + i by omega]
      exact this
/-- the locals at the entry -/
def zw_l0 (as : List Value) (n : Nat) : List (Option Value) := as.map some ++ List.replicate (n - as.length) none
theorem zw_entry {as : List Value} {n : Nat} (ad : Nat → Nat) (h : ∀ v ∈ as, v.category = 1) (hn : as.length ≤ n) (m : MethodId) : ∃ ls, entryFrame m (as.map (zw_cv ad)).toArray n = F0 m 0 ls [] ∧ zw_L ls n ad (zw_l0 as n) := by
  have h' : ∀ v ∈ as.map (zw_cv ad), v.category = 1 := by
    intro v hv
    obtain ⟨w, hw, rfl⟩ := List.mem_map.mp hv
    rw [zw_cv_cat]
    exact h w hw
  have hE := lv_entry (as.map (zw_cv ad)) (n := n) (by rw [zw_lg_sl h', List.length_map, List.length_map]; exact hn)
  refine ⟨_, lg_entry_eq m _ n, hE.1, hE.2.1, fun i v hv => ?_⟩
  have h1 : as[i]? = some v := by
    unfold zw_l0 at hv
    by_cases hi : i < (as.map some).length
    · rw [List.getElem?_append_left hi, List.getElem?_map] at hv
      cases ha : as[i]? with
      | none => rw [ha] at hv; cases hv
      | some w => rw [ha] at hv; cases hv; rfl
    · rw [List.getElem?_append_right (by omega), List.getElem?_replicate] at hv
      split at hv <;> cases hv
  have h2 := zw_lv_args h' 0 i (zw_cv ad v) (by rw [List.getElem?_map, h1]; rfl)
  rw [Nat.zero_add] at h2
  exact hE.2.2 _ h2
theorem zw_A_self {dA : Nat → ClassId} {ad : Nat → Nat} {sz : Nat} {A : Nat → Prop} {wl : List zw_E} (h : va_D A (zw_of dA ad wl)) : va_D (zw_A ad wl.length sz) (zw_of dA ad wl) := by
  obtain ⟨h1, -⟩ := zw_D_iff.mp h
  exact zw_D_iff.mpr ⟨h1, fun k hk => Or.inl ⟨k, hk, rfl⟩⟩
/-- a body that may throw, no table -/
theorem zw_start {l : Launch} (hl : l.stackTraces = false) {D : va_G} {dA : Nat → ClassId} {y : MethodName} {ws ws' : List Cond} {fr mc ms : Nat} {as : List Value} {wl : List zw_E} {post : Option Value → List zw_E → Prop} {px : String → List zw_E → Prop} {cc : ByteArray} {maxL : Nat} {ret : Option FieldType}
    (hy : plainName y.cls = true) (hw : ws = Cond.code y cc maxL ret :: ws') (hcat : as.all (fun v => v.category == 1) = true) (hlen : as.length ≤ maxL)
    (body : ∀ (p : Program) (e : Env) (s : State) (m : MethodId) (args : Array Value) (below : List Frame) (meth : Method) (c : Code) (ad : Nat → Nat) (A : Nat → Prop), A = zw_A ad wl.length s.heap.size → zw_B p l s m args meth c cc maxL ret y.cls y.name ws [] D dA A →
      zw_k p l e (zw_rm fr mc ms) s m args below meth c (vx_MQ below (zw_Qc D dA wl ad s.heap.size post) (zw_XC D dA wl ad s.heap.size px) args s mc ms A) D dA A ad wl.length maxL 0 0 wl 0 (zw_l0 as maxL) []) : zw_Sp l D dA y ws fr mc ms as wl post px := by
  intro ad sz
  refine vx_ofW (cc := cc) (maxL := maxL) (ret := ret) hy hw ?_
  intro p e s m args below meth c s₁ B hml htb hv
  obtain ⟨rfl, hsz, hP, hD, hK, hZ⟩ := hv
  subst hsz
  have hts := atoms_spec (ws := ws) B.pre
  obtain ⟨ls, e1, hL⟩ := zw_entry ad (fun v hv => by have := List.all_eq_true.mp hcat v hv; simpa using this) hlen m
  rw [e1]
  have htb' : c.exceptionTable.toList = [] := by
    cases h : c.exceptionTable.toList with
    | nil => rfl
    | cons x xs => exact (htb x (by rw [h]; exact List.mem_cons_self)).elim
  refine body p e s m _ below meth c ad _ rfl ⟨B.exec, B.bytes, B.returns, hml, findClass_of_methodNamed B.named, hts, hK, hZ, B.notSynchronized, fun q h => Or.inr h, hl, htb', (name_of_methodNamed B.named B.method).1⟩ ad s.heap [] ls (fun _ _ => rfl) (fun _ => rfl) (Nat.le_refl _) hP (zw_A_self hD) va_S.rf hL
/-- a body with a table -/
theorem zw_startW {l : Launch} (hl : l.stackTraces = false) {D : va_G} {dA : Nat → ClassId} {y : MethodName} {ws ws' : List Cond} {fr mc ms : Nat} {as : List Value} {wl : List zw_E} {post : Option Value → List zw_E → Prop} {px : String → List zw_E → Prop} {cc : ByteArray} {maxL : Nat} {ret : Option FieldType} {hh : List (Nat × Nat × Nat × Nat)}
    (hy : plainName y.cls = true) (hw : ws = Cond.codeWith y cc maxL ret hh :: ws') (hcat : as.all (fun v => v.category == 1) = true) (hlen : as.length ≤ maxL)
    (body : ∀ (p : Program) (e : Env) (s : State) (m : MethodId) (args : Array Value) (below : List Frame) (meth : Method) (c : Code) (ad : Nat → Nat) (A : Nat → Prop), A = zw_A ad wl.length s.heap.size → zw_B p l s m args meth c cc maxL ret y.cls y.name ws (tableOf hh) D dA A →
      zw_k p l e (zw_rm fr mc ms) s m args below meth c (vx_MQ below (zw_Qc D dA wl ad s.heap.size post) (zw_XC D dA wl ad s.heap.size px) args s mc ms A) D dA A ad wl.length maxL 0 0 wl 0 (zw_l0 as maxL) []) : zw_Sp l D dA y ws fr mc ms as wl post px := by
  intro ad sz
  refine vx_ofWH (cc := cc) (maxL := maxL) (ret := ret) (hh := hh) hy hw ?_
  intro p e s m args below meth c s₁ B hml hv
  obtain ⟨rfl, hsz, hP, hD, hK, hZ⟩ := hv
  subst hsz
  have hts := atoms_spec (ws := ws) B.pre
  have htb : c.exceptionTable.toList = tableOf hh := vx_table (x := y) B (hts _ (by rw [hw]; exact List.mem_cons_self))
  obtain ⟨ls, e1, hL⟩ := zw_entry ad (fun v hv => by have := List.all_eq_true.mp hcat v hv; simpa using this) hlen m
  rw [e1]
  refine body p e s m _ below meth c ad _ rfl ⟨B.exec, B.bytes, B.returns, hml, findClass_of_methodNamed B.named, hts, hK, hZ, B.notSynchronized, fun q h => Or.inr h, hl, htb, (name_of_methodNamed B.named B.method).1⟩ ad s.heap [] ls (fun _ _ => rfl) (fun _ => rfl) (Nat.le_refl _) hP (zw_A_self hD) va_S.rf hL
/-- a constructor's body -/
theorem zw_startC {l : Launch} (hl : l.stackTraces = false) {D : va_G} {dA : Nat → ClassId} {y : MethodName} {ws ws' : List Cond} {fr mc ms : Nat} {as : List Value} {wl : List zw_E} {post : Option Value → List zw_E → Prop} {cc : ByteArray} {maxL : Nat} {ret : Option FieldType}
    (hy : plainName y.cls = true) (hw : ws = Cond.code y cc maxL ret :: ws') (hcat : as.all (fun v => v.category == 1) = true) (hlen : as.length ≤ maxL)
    (body : ∀ (p : Program) (e : Env) (s : State) (m : MethodId) (args : Array Value) (below : List Frame) (meth : Method) (c : Code) (ad : Nat → Nat) (A : Nat → Prop) (tb : List ExceptionTableEntry), A = zw_A ad wl.length s.heap.size → zw_B p l s m args meth c cc maxL ret y.cls y.name ws tb D dA A →
      zw_k p l e (zw_rm fr mc ms) s m args below meth c (MQ below (zw_Qc D dA wl ad s.heap.size post) args s mc ms A) D dA A ad wl.length maxL 0 0 wl 0 (zw_l0 as maxL) []) : zw_Sc l D dA y ws fr mc ms as wl post := by
  intro ad sz
  refine Met.ofW (cc := cc) (maxL := maxL) (ret := ret) hy hw ?_
  intro p e s m args below meth c s₁ B hml hv
  obtain ⟨rfl, hsz, hP, hD, hK, hZ⟩ := hv
  subst hsz
  have hts := atoms_spec (ws := ws) B.pre
  obtain ⟨ls, e1, hL⟩ := zw_entry ad (fun v hv => by have := List.all_eq_true.mp hcat v hv; simpa using this) hlen m
  rw [e1]
  refine body p e s m _ below meth c ad _ _ rfl ⟨B.exec, B.bytes, B.returns, hml, findClass_of_methodNamed B.named, hts, hK, hZ, B.notSynchronized, fun q h => Or.inr h, hl, rfl, (name_of_methodNamed B.named B.method).1⟩ ad s.heap [] ls (fun _ _ => rfl) (fun _ => rfl) (Nat.le_refl _) hP (zw_A_self hD) va_S.rf hL
section ZR
variable {p : Program} {l : Launch} {e : Env} {R : Room} {s : State} {m : MethodId} {args : Array Value} {below : List Frame} {meth : Method} {c : Code} {cc : ByteArray} {nL : Nat} {ret : Option FieldType} {own nm : String} {Ts : List Cond} {tb : List ExceptionTableEntry} {D : va_G} {dA : Nat → ClassId} {A : Nat → Prop} {ad0 : Nat → Nat} {cells slots pc mc ms : Nat} {wl0 wl : List zw_E} {lv : List (Option Value)} {st : List Value} {post : Option Value → List zw_E → Prop} {px : String → List zw_E → Prop}
theorem zw_end {v : Option Value} {ad : Nat → Nat} {H : Heap} {locs : List Loc} (hA : A = zw_A ad0 wl0.length s.heap.size) (hq : post v wl) (a1 : ∀ k, k < wl0.length ∨ 1000 ≤ k → ad k = ad0 k) (a2 : wl.length = wl0.length → ad = ad0) (a3 : wl0.length ≤ wl.length) (hP : va_P D vwCl (zw_of dA ad wl) H) (hD : va_D A (zw_of dA ad wl)) (hS : va_S A s.heap H locs) (t : State) (ht : t.heap = H) : zw_Qc D dA wl0 ad0 s.heap.size post args s (.returned (v.map (zw_cv ad))) t :=
  ⟨⟨v, wl, ad, rfl, hq, fun k h => a1 k (Or.inl h), a2, a3, by rw [ht]; exact hP, by rw [← hA]; exact hD⟩, by rw [← hA]; exact hS.F ht⟩
/-- ends of a constructor -/
theorem zs_vretC (hA : A = zw_A ad0 wl0.length s.heap.size) (B : zw_B p l s m args meth c cc nL ret own nm Ts tb D dA A) (hr : ret = none) (hc : cells ≤ mc) (hs : slots ≤ ms) (hq : post none wl) (hdg : decode cc pc = .ok (.return_, 1)) :
    zw_k p l e R s m args below meth c (MQ below (zw_Qc D dA wl0 ad0 s.heap.size post) args s mc ms A) D dA A ad0 wl0.length nL cells slots wl pc lv [] := fun ad H locs ls a1 a2 a3 hP hD hS hl =>
  W.widen hc hs (W.vret B.1 B.2.1 (B.2.2.1.trans hr) (fun t ht hW => zw_end (v := none) hA hq a1 a2 a3 hP hD hS t ht) hS.2.2 hdg B.2.2.2.2.2.2.2.2.1)
theorem zs_vret (hA : A = zw_A ad0 wl0.length s.heap.size) (B : zw_B p l s m args meth c cc nL ret own nm Ts tb D dA A) (hr : ret = none) (hc : cells ≤ mc) (hs : slots ≤ ms) (hq : post none wl) (hdg : decode cc pc = .ok (.return_, 1)) :
    zw_k p l e R s m args below meth c (vx_MQ below (zw_Qc D dA wl0 ad0 s.heap.size post) (zw_XC D dA wl0 ad0 s.heap.size px) args s mc ms A) D dA A ad0 wl0.length nL cells slots wl pc lv [] := fun ad H locs ls a1 a2 a3 hP hD hS hl =>
  vx_ret (zs_vretC hA B hr hc hs hq hdg ad H locs ls a1 a2 a3 hP hD hS hl)
theorem zs_zret (hA : A = zw_A ad0 wl0.length s.heap.size) (B : zw_B p l s m args meth c cc nL ret own nm Ts tb D dA A) {ty : FieldType} {v : Int32} (hr : ret = some ty) (hn : narrow ty (.int v) = .int v) (hc : cells ≤ mc) (hs : slots ≤ ms) (hq : post (some (.int v)) wl) (hdg : decode cc pc = .ok (.ireturn, 1)) :
    zw_k p l e R s m args below meth c (vx_MQ below (zw_Qc D dA wl0 ad0 s.heap.size post) (zw_XC D dA wl0 ad0 s.heap.size px) args s mc ms A) D dA A ad0 wl0.length nL cells slots wl pc lv [.int v] := fun ad H locs ls a1 a2 a3 hP hD hS hl =>
  vx_ret (W.widen hc hs (W.zret B.1 B.2.1 (B.2.2.1.trans hr) hn (fun t ht hW => zw_end (v := some (.int v)) hA hq a1 a2 a3 hP hD hS t ht) hS.2.2 hdg B.2.2.2.2.2.2.2.2.1))
theorem zs_lret (hA : A = zw_A ad0 wl0.length s.heap.size) (B : zw_B p l s m args meth c cc nL ret own nm Ts tb D dA A) {v : Int64} (hr : ret = some .long) (hc : cells ≤ mc) (hs : slots ≤ ms) (hq : post (some (.long v)) wl) (hdg : decode cc pc = .ok (.lreturn, 1)) :
    zw_k p l e R s m args below meth c (vx_MQ below (zw_Qc D dA wl0 ad0 s.heap.size post) (zw_XC D dA wl0 ad0 s.heap.size px) args s mc ms A) D dA A ad0 wl0.length nL cells slots wl pc lv [.long v] := fun ad H locs ls a1 a2 a3 hP hD hS hl =>
  vx_ret (W.widen hc hs (W.lret B.1 B.2.1 (B.2.2.1.trans hr) (fun t ht hW => zw_end (v := some (.long v)) hA hq a1 a2 a3 hP hD hS t ht) hS.2.2 hdg B.2.2.2.2.2.2.2.2.1))
theorem zs_aret (hA : A = zw_A ad0 wl0.length s.heap.size) (B : zw_B p l s m args meth c cc nL ret own nm Ts tb D dA A) {rt : FieldType} {k : Nat} (hr : ret = some rt) (hrt : (∃ n, rt = .object n) ∨ ∃ t, rt = .array t) (hc : cells ≤ mc) (hs : slots ≤ ms) (hq : post (some (.ref k)) wl) (hdg : decode cc pc = .ok (.areturn, 1)) :
    zw_k p l e R s m args below meth c (vx_MQ below (zw_Qc D dA wl0 ad0 s.heap.size post) (zw_XC D dA wl0 ad0 s.heap.size px) args s mc ms A) D dA A ad0 wl0.length nL cells slots wl pc lv [.ref k] := fun ad H locs ls a1 a2 a3 hP hD hS hl =>
  vx_ret (W.widen hc hs (W.aret B.1 B.2.1 (B.2.2.1.trans hr) hrt (Or.inr ⟨ad k, rfl⟩) (fun t ht hW => zw_end (v := some (.ref k)) hA hq a1 a2 a3 hP hD hS t ht) hS.2.2 hdg B.2.2.2.2.2.2.2.2.1))
theorem zw_decls_on : ∀ w ∈ zw_decls, w.onTables = true := by
  intro w hw
  simp only [zw_decls, List.mem_cons, List.not_mem_nil, or_false] at hw
  rcases hw with rfl | rfl | rfl <;> rfl
abbrev zw_up : List String := ["java/lang/RuntimeException", "java/lang/Exception"]
theorem zs_throw (hA : A = zw_A ad0 wl0.length s.heap.size) (B : zw_B p l s m args meth c cc nL ret own nm Ts [] D dA A) {cls text : String} {ik is ic fr : Nat} (hR : R = zw_rm fr mc ms) (hfr : 6 ≤ fr) (hcls : Bundle.fit cls = true) (hk : Cond.classLink own ik cls ∈ Ts) (hini : Cond.initialized cls ∈ Ts) (hstr : (own, is, text) ∈ zw_strs) (hcast : (cls, cls) ∈ zw_cast)
    (hat : ∀ w ∈ (vx_atS own ic cls zw_up).filter goodWord, w ∈ Ts) (hng : ∀ w ∈ (vx_atS own ic cls zw_up).filter (fun w => !goodWord w), w ∈ Cond.castable cls cls :: zw_decls) (hgood : ∀ w ∈ Cond.classLink own ik cls :: Cond.initialized cls :: vx_atS own ic cls zw_up, vx_ot w = true)
    (d0 : decode cc pc = .ok (.new ik, 3)) (d3 : decode cc (pc + 3) = .ok (.dup, 1)) (d4 : decode cc (pc + 4) = .ok (.ldc is, 2)) (d6 : decode cc (pc + 6) = .ok (.invokespecial ic, 3)) (d9 : decode cc (pc + 9) = .ok (.athrow, 1))
    (hst : (st.map fun v => v.category).sum ≤ 8) (hc : cells + 1 ≤ mc) (hs : slots + 6 ≤ ms) (hx : px cls wl) :
    zw_k p l e R s m args below meth c (vx_MQ below (zw_Qc D dA wl0 ad0 s.heap.size post) (zw_XC D dA wl0 ad0 s.heap.size px) args s mc ms A) D dA A ad0 wl0.length nL cells slots wl pc lv st := fun ad H locs ls a1 a2 a3 hP hD hS hl => by
  subst hR
  have hts := B.2.2.2.2.2.1
  have hKK := B.2.2.2.2.2.2.1
  obtain ⟨sa, hsa⟩ := hKK.2.1 _ hstr
  have hcats : ((st.map (zw_cv ad)).map fun v => v.category).sum ≤ 8 := by
    rw [List.map_map]
    rw [show ((fun v : Value => v.category) ∘ zw_cv ad) = fun v => v.category from funext fun v => zw_cv_cat ad v]
    exact hst
  refine vx_throwS (own := own) (cls := cls) (text := text) (names := zw_up) (ik := ik) (is := is) (ic := ic) (sa := sa) (A := A) B.1 B.2.1 B.2.2.2.2.2.2.2.2.2.2.1 B.2.2.2.2.1 hcls (by decide +kernel) (hts _ hk) (hts _ hini) hsa
    (vx_hat (B := Cond.castable cls cls :: zw_decls) (fun w hw => hts w (hat w hw)) hng (vx_c (va_Nw.use rfl (hKK.2.2.2.1 _ hcast)) (fun w hw => va_tabs (zw_decls_on w hw) rfl (hKK.2.2.2.2.2.2.2 w hw)))) hgood B.2.2.2.2.2.2.2.1.1 B.2.2.2.2.2.2.2.1.2 hS (hl.1.trans B.2.2.2.1.symm) d0 d3 d4 d6 d9
    (by rw [B.2.2.2.2.2.2.2.2.2.2.2.1]; intro x hx; cases hx) (by show 2 + 3 < fr; omega) (by show _ + (13 * (2 + 1) + 43) ≤ 36 * fr; omega) hc hs B.2.2.2.2.2.2.2.2.1 (fun t hvm hz ho => ?_) hS.2.2 hc hs
  refine ⟨⟨wl, ad, hx, fun k h => a1 k (Or.inl h), a2, a3, hP.kept (fun k q hk => ho q.1 ((hP k q hk).lt)), by rw [← hA]; exact hD⟩, ?_⟩
  rw [← hA]
  exact ⟨Nat.le_trans hS.1 hz, fun q h1 h2 => (ho q (Nat.lt_of_lt_of_le h1 hS.1)).trans (hS.2.1 q h1 h2)⟩
/-- .. of one whose constructor has its own index -/
theorem zs_throwN (hA : A = zw_A ad0 wl0.length s.heap.size) (B : zw_B p l s m args meth c cc nL ret own nm Ts [] D dA A) {cls text : String} {ik is ic fr : Nat} (hR : R = zw_rm fr mc ms) (hfr : 6 ≤ fr) (hcls : Bundle.fit cls = true) (hk : Cond.classLink own ik cls ∈ Ts) (hini : Cond.initialized cls ∈ Ts) (hstr : (own, is, text) ∈ zw_strs) (hcast : (cls, cls) ∈ zw_cast)
    (hat : ∀ w ∈ (vx_atN own ic cls zw_up).filter goodWord, w ∈ Ts) (hng : ∀ w ∈ (vx_atN own ic cls zw_up).filter (fun w => !goodWord w), w ∈ Cond.castable cls cls :: zw_decls) (hgood : ∀ w ∈ Cond.classLink own ik cls :: Cond.initialized cls :: vx_atN own ic cls zw_up, vx_ot w = true)
    (d0 : decode cc pc = .ok (.new ik, 3)) (d3 : decode cc (pc + 3) = .ok (.dup, 1)) (d4 : decode cc (pc + 4) = .ok (.ldc is, 2)) (d6 : decode cc (pc + 6) = .ok (.invokespecial ic, 3)) (d9 : decode cc (pc + 9) = .ok (.athrow, 1))
    (hst : (st.map fun v => v.category).sum ≤ 8) (hc : cells + 1 ≤ mc) (hs : slots + 6 ≤ ms) (hx : px cls wl) :
    zw_k p l e R s m args below meth c (vx_MQ below (zw_Qc D dA wl0 ad0 s.heap.size post) (zw_XC D dA wl0 ad0 s.heap.size px) args s mc ms A) D dA A ad0 wl0.length nL cells slots wl pc lv st := fun ad H locs ls a1 a2 a3 hP hD hS hl => by
  subst hR
  have hts := B.2.2.2.2.2.1
  have hKK := B.2.2.2.2.2.2.1
  obtain ⟨sa, hsa⟩ := hKK.2.1 _ hstr
  have hcats : ((st.map (zw_cv ad)).map fun v => v.category).sum ≤ 8 := by
    rw [List.map_map]
    rw [show ((fun v : Value => v.category) ∘ zw_cv ad) = fun v => v.category from funext fun v => zw_cv_cat ad v]
    exact hst
  refine vx_throwN (own := own) (cls := cls) (text := text) (names := zw_up) (ik := ik) (is := is) (ic := ic) (sa := sa) (A := A) B.1 B.2.1 B.2.2.2.2.2.2.2.2.2.2.1 B.2.2.2.2.1 hcls (by decide +kernel) (hts _ hk) (hts _ hini) hsa
    (vx_hat (B := Cond.castable cls cls :: zw_decls) (fun w hw => hts w (hat w hw)) hng (vx_c (va_Nw.use rfl (hKK.2.2.2.1 _ hcast)) (fun w hw => va_tabs (zw_decls_on w hw) rfl (hKK.2.2.2.2.2.2.2 w hw)))) hgood B.2.2.2.2.2.2.2.1.1 B.2.2.2.2.2.2.2.1.2 hS (hl.1.trans B.2.2.2.1.symm) d0 d3 d4 d6 d9
    (by rw [B.2.2.2.2.2.2.2.2.2.2.2.1]; intro x hx; cases hx) (by show 2 + 3 < fr; omega) (by show _ + (13 * (2 + 1) + 43) ≤ 36 * fr; omega) hc hs B.2.2.2.2.2.2.2.2.1 (fun t hvm hz ho => ?_) hS.2.2 hc hs
  refine ⟨⟨wl, ad, hx, fun k h => a1 k (Or.inl h), a2, a3, hP.kept (fun k q hk => ho q.1 ((hP k q hk).lt)), by rw [← hA]; exact hD⟩, ?_⟩
  rw [← hA]
  exact ⟨Nat.le_trans hS.1 hz, fun q h1 h2 => (ho q (Nat.lt_of_lt_of_le h1 hS.1)).trans (hS.2.1 q h1 h2)⟩
end ZR
