/-! worlds as lists of cells: a reference inside them is a place of the list; ad k is the address of place k -/
abbrev zw_E : Type := (Nat × vp_A) ⊕ (Nat × List Value)
def zw_cv (ad : Nat → Nat) (v : Value) : Value := match v with
  | .ref k => .ref (ad k)
  | v => v
def zw_cA (ad : Nat → Nat) (a : vp_A) : vp_A := match a.2 with
  | .inr (.inr (.inr (.inr f))) => (a.1, .inr (.inr (.inr (.inr (fun j => (f j).map ad)))))
  | _ => a
def zw_cE (dA : Nat → ClassId) (ad : Nat → Nat) (e : zw_E) : va_E := match e with
  | .inl x => .inl (dA x.1, zw_cA ad x.2)
  | .inr q => .inr (q.1, q.2.map (zw_cv ad))
def zw_of (dA : Nat → ClassId) (ad : Nat → Nat) (wl : List zw_E) : va_W := wl.mapIdx (fun k e => (ad k, zw_cE dA ad e))
theorem zw_of_get (dA : Nat → ClassId) (ad : Nat → Nat) (wl : List zw_E) (k : Nat) : (zw_of dA ad wl)[k]? = wl[k]?.map (fun e => (ad k, zw_cE dA ad e)) := List.getElem?_mapIdx
theorem zw_of_at {dA : Nat → ClassId} {ad : Nat → Nat} {wl : List zw_E} {k : Nat} {e : zw_E} (h : wl[k]? = some e) : (zw_of dA ad wl)[k]? = some (ad k, zw_cE dA ad e) := by rw [zw_of_get, h]; rfl
theorem zw_of_inv {dA : Nat → ClassId} {ad : Nat → Nat} {wl : List zw_E} {k : Nat} {q : Nat × va_E} (h : (zw_of dA ad wl)[k]? = some q) : ∃ e, wl[k]? = some e ∧ q = (ad k, zw_cE dA ad e) := by
  rw [zw_of_get] at h
  cases hw : wl[k]? with
  | none => rw [hw] at h; cases h
  | some e => rw [hw] at h; exact ⟨e, rfl, (Option.some.inj h).symm⟩
theorem zw_of_len (dA : Nat → ClassId) (ad : Nat → Nat) (wl : List zw_E) : (zw_of dA ad wl).length = wl.length := by simp [zw_of]
theorem zw_of_set (dA : Nat → ClassId) (ad : Nat → Nat) (wl : List zw_E) (k : Nat) (e : zw_E) : (zw_of dA ad wl).set k (ad k, zw_cE dA ad e) = zw_of dA ad (wl.set k e) := by
  apply List.ext_getElem?
  intro j
  rw [zw_of_get, List.getElem?_set, List.getElem?_set, zw_of_len]
  by_cases h : k = j
  · subst h
    by_cases hk : k < wl.length
    · simp [hk]
    · simp [hk]
  · rw [if_neg h, if_neg h, zw_of_get]
theorem zw_lt {wl : List zw_E} {k : Nat} {e : zw_E} (h : wl[k]? = some e) : k < wl.length := (List.getElem?_eq_some_iff.mp h).1
/-- the array classes: 0 int, 1 char, 2 long, 3 rows of pages, 4 rows of int rows -/
def zw_tys (dA : Nat → ClassId) : List (ClassId × FieldType) := [(dA 0, .int), (dA 1, .char), (dA 2, .long), (dA 3, .object "Twicebook$Page"), (dA 4, .array .int)]
def zw_aoa (U : State) : Prop := (Cond.arrayOver (.array .int)).before #[] U = true
theorem zw_aoaSpec {args : Array Value} {s : State} {t : FieldType} (h : (Cond.arrayOver (.array t)).before args s = true) :
    ∃ comp c k, s.vm.findClass (FieldType.array t).toString = some comp ∧ (s.vm.classes.findIdx? fun (x : Class) => match x.kind with | .array component _ => component == comp | _ => false) = some c ∧ s.vm.classes[c]? = some k ∧ k.kind = .array comp (.array t) ∧ s.vm.findClass ("[" ++ (FieldType.array t).toString) = some c := by
  simp only [Cond.before, Cond.holds, Cond.value, beq_iff_eq] at h
  cases hc : s.vm.findClass (FieldType.array t).toString with
  | none => simp [hc] at h
  | some comp =>
    simp only [hc, Option.bind_some, Option.bind_eq_some_iff, Option.map_eq_some_iff] at h
    obtain ⟨c, hi, k, hk, hb⟩ := h
    obtain ⟨hlt, hp, -⟩ := Array.findIdx?_eq_some_iff_getElem.mp hi
    have hkk : s.vm.classes[c] = k := (Array.getElem?_eq_some_iff.mp hk).2
    rw [hkk] at hp
    cases hkind : k.kind with
    | array component ty =>
      rw [hkind] at hb hp
      simp at hb hp
      exact ⟨comp, c, k, rfl, hi, hk, by rw [hkind, hp, hb.1], hb.2⟩
    | _ => rw [hkind] at hb; simp at hb
theorem zw_aoa.moved {u U : State} (hvm : u.vm.Alike U.vm) (h : zw_aoa u) : zw_aoa U := by
  obtain ⟨comp, c, k, h1, h2, h3, h4, h5⟩ := zw_aoaSpec h
  obtain ⟨k', hk', he⟩ := hvm.2.2 _ _ h3
  have hi : (U.vm.classes.findIdx? fun (x : Class) => match x.kind with | .array component _ => component == comp | _ => false) = some c := by
    have b1 := va_idx_bare U.vm comp
    have b2 := va_idx_bare u.vm comp
    have b3 : U.vm.bare = u.vm.bare := by first | exact hvm.bare_eq | exact hvm.bare_eq.symm
    rw [b3] at b1
    exact b1.symm.trans (b2.trans h2)
  have hkind : k'.kind = .array comp (.array .int) := by rw [he]; exact h4
  have f1 : U.vm.findClass (FieldType.array .int).toString = some comp := by rw [hvm.findClass]; exact h1
  have f2 : U.vm.findClass ("[" ++ (FieldType.array .int).toString) = some c := by rw [hvm.findClass]; exact h5
  unfold zw_aoa Cond.before Cond.holds
  simp only [Cond.value]
  rw [f1, Option.bind_some]
  refine (congrArg (fun o : Option Nat => (o.bind (fun c => (U.vm.classes[c]?).map fun (k : Class) => match k.kind with | .array _ ty => decide (ty = FieldType.array .int) && decide (U.vm.findClass ("[" ++ (FieldType.array .int).toString) = some c) | _ => false) == some true)) hi).trans ?_
  simp [hk', hkind, f2]
/-- words of the nest, texts, what can be cast and what can't -/
def zw_nests : List Cond := [.fieldLinkNest "Twicebook" 69 "Twicebook$Page" "coming" "LTwicebook$Row;" "Twicebook", .fieldLinkNest "Twicebook" 170 "Twicebook$Page" "asking" "LTwicebook$Row;" "Twicebook", .fieldLinkNest "Twicebook" 83 "Twicebook$Page" "most" "I" "Twicebook", .fieldLinkNest "Twicebook" 94 "Twicebook$Page" "eldestBy" "C" "Twicebook"]
def zw_strs : List (String × Nat × String) := [("Twicebook", 114, "the number is out of range"), ("Twicebook", 129, "there is no walk"), ("Twicebook", 144, "the walk has gone over all"), ("Twicebook", 153, "there is nothing to cut"), ("Twicebook", 167, "there is no such move"), ("Twicebook", 179, "no change is kept"), ("Twicebook", 211, "the key is out of range"), ("Twicebook", 213, "the key is not there"), ("Twicebook", 215, "there is no such order"), ("Twicebook", 217, "there is no such place"), ("Twicebook", 78, "the limit is out of range")]
abbrev zE_a : String := "java/lang/IllegalArgumentException"
abbrev zE_s : String := "java/lang/IllegalStateException"
abbrev zE_i : String := "java/lang/IndexOutOfBoundsException"
abbrev zE_n : String := "java/util/NoSuchElementException"
def zw_cast : List (String × String) := [(zE_a, zE_a), (zE_s, zE_s), (zE_i, zE_i), (zE_n, zE_n)]
def zw_noc : List (String × String) := [(zE_i, zE_a), (zE_n, zE_a), (zE_n, zE_s)]
def zw_decls : List Cond := [.declares ⟨"java/lang/RuntimeException", "<init>", "(Ljava/lang/String;)V"⟩, .declares ⟨"java/lang/Exception", "<init>", "(Ljava/lang/String;)V"⟩, .declares ⟨"java/lang/Throwable", "<init>", "(Ljava/lang/String;)V"⟩]
def zw_K (D : va_G) (dA : Nat → ClassId) (U : State) : Prop :=
  va_K D vwCl (zw_tys dA) U ∧ (∀ q ∈ zw_strs, ∃ sa, vk_R q.1 q.2.1 q.2.2 sa U) ∧ (∀ w ∈ zw_nests, va_Nw w U) ∧ (∀ q ∈ zw_cast, va_Nw (.castable q.1 q.2) U) ∧ (∀ q ∈ zw_noc, va_Nc q.1 q.2 U) ∧ va_AO "Twicebook$Page" U ∧ zw_aoa U ∧ ∀ w ∈ zw_decls, va_Nw w U
theorem zw_K.warm {D : va_G} {dA : Nat → ClassId} {s U : State} (hW : s.WarmedH U.vm) (h : zw_K D dA s) : zw_K D dA U := by
  obtain ⟨h1, h2, h3, h4, h5, h6, h7, h8⟩ := h
  refine ⟨va_K.moved hW.alike h1, fun q hq => ?_, fun w hw => ?_, fun q hq => va_Nw.warmC hW (h4 q hq), fun q hq => va_Nc.moved hW.alike (h5 q hq), va_AO.moved hW.alike h6, zw_aoa.moved hW.alike h7, fun w hw => ?_⟩
  · obtain ⟨sa, h⟩ := h2 q hq
    exact ⟨sa, vk_R.warm hW h⟩
  · have h9 := h3 w hw
    simp only [zw_nests, List.mem_cons, List.not_mem_nil, or_false] at hw
    rcases hw with rfl | rfl | rfl | rfl <;> exact va_Nw.warmF hW h9
  · have h9 := h8 w hw
    simp only [zw_decls, List.mem_cons, List.not_mem_nil, or_false] at hw
    rcases hw with rfl | rfl | rfl <;> exact va_Nw.warmD hW h9
theorem zw_K.same {D : va_G} {dA : Nat → ClassId} {s U : State} (hv : s.vm = U.vm) (h : zw_K D dA s) : zw_K D dA U := zw_K.warm (by rw [← hv]; exact State.WarmedH.refl s) h
def zw_Z (A : Nat → Prop) (U : State) (H : Heap) : Prop := vx_Zq Bundle.tN "UNASSIGNED_STACK" Bundle.steD A U H ∧ vx_Zq Bundle.tN "SUPPRESSED_SENTINEL" Bundle.listD A U H
/-- what a method may write: the cells of its world, and all that comes -/
def zw_A (ad : Nat → Nat) (n sz : Nat) : Nat → Prop := fun q => (∃ k, k < n ∧ q = ad k) ∨ sz ≤ q
/-- the locals -/
def zw_L (ls : Array Slot) (nL : Nat) (ad : Nat → Nat) (lv : List (Option Value)) : Prop := ls.size = nL ∧ lv_wf ls ∧ ∀ (i : Nat) (v : Value), lv[i]? = some (some v) → ls[i]? = some (.val (zw_cv ad v))
def zw_ok (lv : List (Option Value)) (i : Nat) : Bool := match i with
  | 0 => true
  | j + 1 => match lv[j]? with
    | some (some (.long _)) => false
    | some (some (.double _)) => false
    | _ => true
def zw_ents (ad : Nat → Nat) (lv : List (Option Value)) : List (Nat × Value) := (List.range lv.length).filterMap (fun i => (lv[i]?).bind (fun z => z.map (fun v => (i, zw_cv ad v))))
theorem zw_ents_mem {ad : Nat → Nat} {lv : List (Option Value)} {q : Nat × Value} : q ∈ zw_ents ad lv ↔ ∃ v, lv[q.1]? = some (some v) ∧ q.2 = zw_cv ad v := by
  unfold zw_ents
  rw [List.mem_filterMap]
  constructor
  · rintro ⟨i, -, h⟩
    cases hz : lv[i]? with
    | none => rw [hz] at h; cases h
    | some z =>
      rw [hz] at h
      cases z with
      | none => cases h
      | some v =>
        cases h
        exact ⟨v, hz, rfl⟩
  · rintro ⟨v, h1, h2⟩
    refine ⟨q.1, List.mem_range.mpr (List.getElem?_eq_some_iff.mp h1).1, ?_⟩
    rw [h1]
    show some (q.1, zw_cv ad v) = some q
    rw [← h2]
theorem zw_L.has {ls : Array Slot} {nL : Nat} {ad : Nat → Nat} {lv : List (Option Value)} (h : zw_L ls nL ad lv) : lv_has ls nL (zw_ents ad lv) := ⟨h.1, h.2.1, fun q hq => by
  obtain ⟨v, h1, h2⟩ := zw_ents_mem.mp hq
  rw [h2]
  exact h.2.2 _ _ h1⟩
theorem zw_cv_cat (ad : Nat → Nat) (v : Value) : (zw_cv ad v).category = v.category := by cases v <;> rfl
theorem zw_L.set1 {ls : Array Slot} {nL i : Nat} {ad : Nat → Nat} {lv : List (Option Value)} {v : Value} (ok : zw_ok lv i = true) (h : lv_has ls nL ((i, zw_cv ad v) :: (zw_ents ad lv).filter (fun q => !(q.1 == i) && !(q.1 + 1 == i && q.2.category == 2)))) : zw_L ls nL ad (lv.set i (some v)) := by
  refine ⟨h.1, h.2.1, fun j w hw => ?_⟩
  rw [List.getElem?_set] at hw
  by_cases e : i = j
  · subst e
    rw [if_pos rfl] at hw
    split at hw
    · cases hw
      exact h.2.2 (i, zw_cv ad v) List.mem_cons_self
    · cases hw
  · rw [if_neg e] at hw
    refine h.2.2 (j, zw_cv ad w) (List.mem_cons_of_mem _ (List.mem_filter.mpr ⟨zw_ents_mem.mpr ⟨w, hw, rfl⟩, ?_⟩))
    have e1 : (j == i) = false := by simp; exact fun q => e q.symm
    rw [e1]
    by_cases e2 : j + 1 = i
    · subst e2
      unfold zw_ok at ok
      dsimp only at ok
      rw [hw] at ok
      rw [zw_cv_cat]
      cases w <;> simp_all [Value.category]
    · have e3 : (j + 1 == i) = false := by simp; exact e2
      simp [e3]
theorem zw_L.set2 {ls : Array Slot} {nL i : Nat} {ad : Nat → Nat} {lv : List (Option Value)} {x : Int64} (ok : zw_ok lv i = true) (h : lv_has ls nL ((i, Value.long x) :: (zw_ents ad lv).filter (fun q => !(q.1 == i) && (!(q.1 == i + 1) && !(q.1 + 1 == i && q.2.category == 2))))) : zw_L ls nL ad ((lv.set i (some (.long x))).set (i + 1) none) := by
  refine ⟨h.1, h.2.1, fun j w hw => ?_⟩
  rw [List.getElem?_set] at hw
  by_cases e0 : i + 1 = j
  · rw [if_pos e0] at hw
    split at hw <;> cases hw
  · rw [if_neg e0, List.getElem?_set] at hw
    by_cases e : i = j
    · subst e
      rw [if_pos rfl] at hw
      split at hw
      · cases hw
        exact h.2.2 (i, Value.long x) List.mem_cons_self
      · cases hw
    · rw [if_neg e] at hw
      refine h.2.2 (j, zw_cv ad w) (List.mem_cons_of_mem _ (List.mem_filter.mpr ⟨zw_ents_mem.mpr ⟨w, hw, rfl⟩, ?_⟩))
      have e1 : (j == i) = false := by simp; exact fun q => e q.symm
      have e4 : (j == i + 1) = false := by simp; exact fun q => e0 q.symm
      rw [e1]
      by_cases e2 : j + 1 = i
      · subst e2
        unfold zw_ok at ok
        dsimp only at ok
        rw [hw] at ok
        rw [zw_cv_cat]
        cases w <;> simp_all [Value.category]
      · have e3 : (j + 1 == i) = false := by simp; exact e2
        simp only [e3, e4]
        rfl
/-- what a body stands on: the machine, the code, the words, the classes -/
def zw_B (p : Program) (l : Launch) (s : State) (m : MethodId) (args : Array Value) (meth : Method) (c : Code) (cc : ByteArray) (nL : Nat) (ret : Option FieldType) (own nm : String) (Ts : List Cond) (tb : List ExceptionTableEntry) (D : va_G) (dA : Nat → ClassId) (A : Nat → Prop) : Prop :=
  p.tables.exec = Jvm.exec ∧ c.code = cc ∧ meth.sig.returnType = ret ∧ c.maxLocals = nL ∧ s.vm.findClass own = some m.cls ∧ (∀ w ∈ Ts, w.before args s = true) ∧ zw_K D dA s ∧ zw_Z A s s.heap ∧ meth.locks = false ∧ (∀ q : Nat, s.heap.size ≤ q → A q) ∧ l.stackTraces = false ∧ c.exceptionTable.toList = tb ∧ meth.name = nm
/-- a walk from a frame over a world -/
def zw_k (p : Program) (l : Launch) (e : Env) (R : Room) (s : State) (m : MethodId) (args : Array Value) (below : List Frame) (meth : Method) (c : Code) (Q : State → Prop) (D : va_G) (dA : Nat → ClassId) (A : Nat → Prop) (ad0 : Nat → Nat) (n0 nL : Nat) (cells slots : Nat) (wl : List zw_E) (pc : Nat) (lv : List (Option Value)) (st : List Value) : Prop :=
  ∀ (ad : Nat → Nat) (H : Heap) (locs : List Loc) (ls : Array Slot), (∀ k, k < n0 ∨ 1000 ≤ k → ad k = ad0 k) → (wl.length = n0 → ad = ad0) → n0 ≤ wl.length → va_P D vwCl (zw_of dA ad wl) H → va_D A (zw_of dA ad wl) → va_S A s.heap H locs → zw_L ls nL ad lv → W p l e R s m args below meth c H locs cells slots Q (F0 m pc ls (st.map (zw_cv ad)))
section ZS
variable {p : Program} {l : Launch} {e : Env} {R : Room} {s : State} {m : MethodId} {args : Array Value} {below : List Frame} {meth : Method} {c : Code} {Q : State → Prop} {cc : ByteArray} {nL : Nat} {ret : Option FieldType} {own nm : String} {Ts : List Cond} {tb : List ExceptionTableEntry} {D : va_G} {dA : Nat → ClassId} {A : Nat → Prop} {ad0 : Nat → Nat} {n0 cells slots pc : Nat} {wl : List zw_E} {lv : List (Option Value)} {st : List Value}
theorem zs_iconst (B : zw_B p l s m args meth c cc nL ret own nm Ts tb D dA A) {n : Int} {v : Int32} (hdg : decode cc pc = .ok (.iconst n, 1)) (hv : Int32.ofInt n = v) (kk : zw_k p l e R s m args below meth c Q D dA A ad0 n0 nL cells slots wl (pc + 1) lv (.int v :: st)) : zw_k p l e R s m args below meth c Q D dA A ad0 n0 nL cells slots wl pc lv (st) := fun ad H locs ls a1 a2 a3 hP hD hS hl => lv_iconst B.1 B.2.1 hdg hv (kk ad H locs ls a1 a2 a3 hP hD hS hl)
theorem zs_bipush (B : zw_B p l s m args meth c cc nL ret own nm Ts tb D dA A) {n : Int} {v : Int32} (hdg : decode cc pc = .ok (.bipush n, 2)) (hv : (Int8.ofInt n).toInt32 = v) (kk : zw_k p l e R s m args below meth c Q D dA A ad0 n0 nL cells slots wl (pc + 2) lv (.int v :: st)) : zw_k p l e R s m args below meth c Q D dA A ad0 n0 nL cells slots wl pc lv (st) := fun ad H locs ls a1 a2 a3 hP hD hS hl => lv_bipush B.1 B.2.1 hdg hv (kk ad H locs ls a1 a2 a3 hP hD hS hl)
theorem zs_lconst (B : zw_B p l s m args meth c cc nL ret own nm Ts tb D dA A) {n : Fin 2} {v : Int64} (hdg : decode cc pc = .ok (.lconst n, 1)) (hv : Int64.ofNat (n : Nat) = v) (kk : zw_k p l e R s m args below meth c Q D dA A ad0 n0 nL cells slots wl (pc + 1) lv (.long v :: st)) : zw_k p l e R s m args below meth c Q D dA A ad0 n0 nL cells slots wl pc lv (st) := fun ad H locs ls a1 a2 a3 hP hD hS hl => lv_lconst B.1 B.2.1 hdg hv (kk ad H locs ls a1 a2 a3 hP hD hS hl)
theorem zs_ldc2 (B : zw_B p l s m args meth c cc nL ret own nm Ts tb D dA A) {index : Nat} {v : Int64} (hdg : decode cc pc = .ok (.ldc2_w index, 3)) (hw : Jvm.Cond.constantLong own index v ∈ Ts) (kk : zw_k p l e R s m args below meth c Q D dA A ad0 n0 nL cells slots wl (pc + 3) lv (.long v :: st)) : zw_k p l e R s m args below meth c Q D dA A ad0 n0 nL cells slots wl pc lv (st) := fun ad H locs ls a1 a2 a3 hP hD hS hl => lv_ldc2 B.1 B.2.1 B.2.2.2.2.1 (B.2.2.2.2.2.1 _ hw) hdg (kk ad H locs ls a1 a2 a3 hP hD hS hl)
theorem zs_iload_n (B : zw_B p l s m args meth c cc nL ret own nm Ts tb D dA A) {k : Fin 4} {i : Nat} {x : Int32} (hdg : decode cc pc = .ok (.iload_n k, 1)) (hi : (k : Nat) = i) (hx : lv[i]? = some (some (.int x))) (kk : zw_k p l e R s m args below meth c Q D dA A ad0 n0 nL cells slots wl (pc + 1) lv (.int x :: st)) : zw_k p l e R s m args below meth c Q D dA A ad0 n0 nL cells slots wl pc lv (st) := fun ad H locs ls a1 a2 a3 hP hD hS hl => lv_iload_n B.1 B.2.1 hdg hi (hl.2.2 _ _ hx) (kk ad H locs ls a1 a2 a3 hP hD hS hl)
theorem zs_iload (B : zw_B p l s m args meth c cc nL ret own nm Ts tb D dA A) {i : Nat} {x : Int32} (hdg : decode cc pc = .ok (.iload i, 2)) (hx : lv[i]? = some (some (.int x))) (kk : zw_k p l e R s m args below meth c Q D dA A ad0 n0 nL cells slots wl (pc + 2) lv (.int x :: st)) : zw_k p l e R s m args below meth c Q D dA A ad0 n0 nL cells slots wl pc lv (st) := fun ad H locs ls a1 a2 a3 hP hD hS hl => lv_iload B.1 B.2.1 hdg (hl.2.2 _ _ hx) (kk ad H locs ls a1 a2 a3 hP hD hS hl)
theorem zs_lload_n (B : zw_B p l s m args meth c cc nL ret own nm Ts tb D dA A) {k : Fin 4} {i : Nat} {x : Int64} (hdg : decode cc pc = .ok (.lload_n k, 1)) (hi : (k : Nat) = i) (hx : lv[i]? = some (some (.long x))) (kk : zw_k p l e R s m args below meth c Q D dA A ad0 n0 nL cells slots wl (pc + 1) lv (.long x :: st)) : zw_k p l e R s m args below meth c Q D dA A ad0 n0 nL cells slots wl pc lv (st) := fun ad H locs ls a1 a2 a3 hP hD hS hl => lv_lload_n B.1 B.2.1 hdg hi (hl.2.2 _ _ hx) (kk ad H locs ls a1 a2 a3 hP hD hS hl)
theorem zs_lload (B : zw_B p l s m args meth c cc nL ret own nm Ts tb D dA A) {i : Nat} {x : Int64} (hdg : decode cc pc = .ok (.lload i, 2)) (hx : lv[i]? = some (some (.long x))) (kk : zw_k p l e R s m args below meth c Q D dA A ad0 n0 nL cells slots wl (pc + 2) lv (.long x :: st)) : zw_k p l e R s m args below meth c Q D dA A ad0 n0 nL cells slots wl pc lv (st) := fun ad H locs ls a1 a2 a3 hP hD hS hl => lv_lload B.1 B.2.1 hdg (hl.2.2 _ _ hx) (kk ad H locs ls a1 a2 a3 hP hD hS hl)
theorem zs_aload_n (B : zw_B p l s m args meth c cc nL ret own nm Ts tb D dA A) {k : Fin 4} {i x : Nat} (hdg : decode cc pc = .ok (.aload_n k, 1)) (hi : (k : Nat) = i) (hx : lv[i]? = some (some (.ref x))) (kk : zw_k p l e R s m args below meth c Q D dA A ad0 n0 nL cells slots wl (pc + 1) lv (.ref x :: st)) : zw_k p l e R s m args below meth c Q D dA A ad0 n0 nL cells slots wl pc lv (st) := fun ad H locs ls a1 a2 a3 hP hD hS hl => lv_aload_n B.1 B.2.1 hdg hi (hl.2.2 _ _ hx) (kk ad H locs ls a1 a2 a3 hP hD hS hl)
theorem zs_aload (B : zw_B p l s m args meth c cc nL ret own nm Ts tb D dA A) {i x : Nat} (hdg : decode cc pc = .ok (.aload i, 2)) (hx : lv[i]? = some (some (.ref x))) (kk : zw_k p l e R s m args below meth c Q D dA A ad0 n0 nL cells slots wl (pc + 2) lv (.ref x :: st)) : zw_k p l e R s m args below meth c Q D dA A ad0 n0 nL cells slots wl pc lv (st) := fun ad H locs ls a1 a2 a3 hP hD hS hl => lv_aload B.1 B.2.1 hdg (hl.2.2 _ _ hx) (kk ad H locs ls a1 a2 a3 hP hD hS hl)
theorem zs_istore_n (B : zw_B p l s m args meth c cc nL ret own nm Ts tb D dA A) {k : Fin 4} {i : Nat} {x : Int32} (hdg : decode cc pc = .ok (.istore_n k, 1)) (hi : (k : Nat) = i) (hn : i < nL) (ok : zw_ok lv i = true) (kk : zw_k p l e R s m args below meth c Q D dA A ad0 n0 nL cells slots wl (pc + 1) (lv.set i (some (.int x))) st) : zw_k p l e R s m args below meth c Q D dA A ad0 n0 nL cells slots wl pc lv (.int x :: st) := fun ad H locs ls a1 a2 a3 hP hD hS hl => lv_istore_n B.1 B.2.1 hdg hi hl.has hn rfl (fun ls' hl' => kk ad H locs ls' a1 a2 a3 hP hD hS (zw_L.set1 ok hl'))
theorem zs_istore (B : zw_B p l s m args meth c cc nL ret own nm Ts tb D dA A) {i : Nat} {x : Int32} (hdg : decode cc pc = .ok (.istore i, 2)) (hn : i < nL) (ok : zw_ok lv i = true) (kk : zw_k p l e R s m args below meth c Q D dA A ad0 n0 nL cells slots wl (pc + 2) (lv.set i (some (.int x))) st) : zw_k p l e R s m args below meth c Q D dA A ad0 n0 nL cells slots wl pc lv (.int x :: st) := fun ad H locs ls a1 a2 a3 hP hD hS hl => lv_istore B.1 B.2.1 hdg hl.has hn rfl (fun ls' hl' => kk ad H locs ls' a1 a2 a3 hP hD hS (zw_L.set1 ok hl'))
theorem zs_lstore_n (B : zw_B p l s m args meth c cc nL ret own nm Ts tb D dA A) {k : Fin 4} {i : Nat} {x : Int64} (hdg : decode cc pc = .ok (.lstore_n k, 1)) (hi : (k : Nat) = i) (hn : i + 1 < nL) (ok : zw_ok lv i = true) (kk : zw_k p l e R s m args below meth c Q D dA A ad0 n0 nL cells slots wl (pc + 1) ((lv.set i (some (.long x))).set (i + 1) none) st) : zw_k p l e R s m args below meth c Q D dA A ad0 n0 nL cells slots wl pc lv (.long x :: st) := fun ad H locs ls a1 a2 a3 hP hD hS hl => lv_lstore_n B.1 B.2.1 hdg hi hl.has hn rfl (fun ls' hl' => kk ad H locs ls' a1 a2 a3 hP hD hS (zw_L.set2 ok hl'))
theorem zs_lstore (B : zw_B p l s m args meth c cc nL ret own nm Ts tb D dA A) {i : Nat} {x : Int64} (hdg : decode cc pc = .ok (.lstore i, 2)) (hn : i + 1 < nL) (ok : zw_ok lv i = true) (kk : zw_k p l e R s m args below meth c Q D dA A ad0 n0 nL cells slots wl (pc + 2) ((lv.set i (some (.long x))).set (i + 1) none) st) : zw_k p l e R s m args below meth c Q D dA A ad0 n0 nL cells slots wl pc lv (.long x :: st) := fun ad H locs ls a1 a2 a3 hP hD hS hl => lv_lstore B.1 B.2.1 hdg hl.has hn rfl (fun ls' hl' => kk ad H locs ls' a1 a2 a3 hP hD hS (zw_L.set2 ok hl'))
theorem zs_astore_n (B : zw_B p l s m args meth c cc nL ret own nm Ts tb D dA A) {k : Fin 4} {i x : Nat} (hdg : decode cc pc = .ok (.astore_n k, 1)) (hi : (k : Nat) = i) (hn : i < nL) (ok : zw_ok lv i = true) (kk : zw_k p l e R s m args below meth c Q D dA A ad0 n0 nL cells slots wl (pc + 1) (lv.set i (some (.ref x))) st) : zw_k p l e R s m args below meth c Q D dA A ad0 n0 nL cells slots wl pc lv (.ref x :: st) := fun ad H locs ls a1 a2 a3 hP hD hS hl => lv_astore_n B.1 B.2.1 hdg hi hl.has hn rfl (fun ls' hl' => kk ad H locs ls' a1 a2 a3 hP hD hS (zw_L.set1 ok hl'))
theorem zs_astore (B : zw_B p l s m args meth c cc nL ret own nm Ts tb D dA A) {i x : Nat} (hdg : decode cc pc = .ok (.astore i, 2)) (hn : i < nL) (ok : zw_ok lv i = true) (kk : zw_k p l e R s m args below meth c Q D dA A ad0 n0 nL cells slots wl (pc + 2) (lv.set i (some (.ref x))) st) : zw_k p l e R s m args below meth c Q D dA A ad0 n0 nL cells slots wl pc lv (.ref x :: st) := fun ad H locs ls a1 a2 a3 hP hD hS hl => lv_astore B.1 B.2.1 hdg hl.has hn rfl (fun ls' hl' => kk ad H locs ls' a1 a2 a3 hP hD hS (zw_L.set1 ok hl'))
theorem zs_iinc (B : zw_B p l s m args meth c cc nL ret own nm Ts tb D dA A) {i : Nat} {n : Int} {x v : Int32} (hdg : decode cc pc = .ok (.iinc i n, 3)) (hx : lv[i]? = some (some (.int x))) (hv : x + Int32.ofInt n = v) (hn : i < nL) (ok : zw_ok lv i = true) (kk : zw_k p l e R s m args below meth c Q D dA A ad0 n0 nL cells slots wl (pc + 3) (lv.set i (some (.int v))) st) : zw_k p l e R s m args below meth c Q D dA A ad0 n0 nL cells slots wl pc lv st := fun ad H locs ls a1 a2 a3 hP hD hS hl => by
  obtain ⟨k, hk⟩ := List.getElem?_of_mem (zw_ents_mem (ad := ad) (lv := lv) (q := (i, .int x)) |>.mpr ⟨.int x, hx, rfl⟩)
  exact lv_iinc B.1 B.2.1 hdg hl.has hk hv hn rfl (fun ls' hl' => kk ad H locs ls' a1 a2 a3 hP hD hS (zw_L.set1 (v := .int v) ok hl'))
theorem zs_iadd (B : zw_B p l s m args meth c cc nL ret own nm Ts tb D dA A) {x y : Int32} (hdg : decode cc pc = .ok (.iadd, 1))  (kk : zw_k p l e R s m args below meth c Q D dA A ad0 n0 nL cells slots wl (pc + 1) lv (.int (x + y) :: st)) : zw_k p l e R s m args below meth c Q D dA A ad0 n0 nL cells slots wl pc lv (.int y :: .int x :: st) := fun ad H locs ls a1 a2 a3 hP hD hS hl => lv_iadd B.1 B.2.1 hdg (kk ad H locs ls a1 a2 a3 hP hD hS hl)
theorem zs_isub (B : zw_B p l s m args meth c cc nL ret own nm Ts tb D dA A) {x y : Int32} (hdg : decode cc pc = .ok (.isub, 1))  (kk : zw_k p l e R s m args below meth c Q D dA A ad0 n0 nL cells slots wl (pc + 1) lv (.int (x - y) :: st)) : zw_k p l e R s m args below meth c Q D dA A ad0 n0 nL cells slots wl pc lv (.int y :: .int x :: st) := fun ad H locs ls a1 a2 a3 hP hD hS hl => lv_isub B.1 B.2.1 hdg (kk ad H locs ls a1 a2 a3 hP hD hS hl)
theorem zs_imul (B : zw_B p l s m args meth c cc nL ret own nm Ts tb D dA A) {x y : Int32} (hdg : decode cc pc = .ok (.imul, 1))  (kk : zw_k p l e R s m args below meth c Q D dA A ad0 n0 nL cells slots wl (pc + 1) lv (.int (x * y) :: st)) : zw_k p l e R s m args below meth c Q D dA A ad0 n0 nL cells slots wl pc lv (.int y :: .int x :: st) := fun ad H locs ls a1 a2 a3 hP hD hS hl => lv_imul B.1 B.2.1 hdg (kk ad H locs ls a1 a2 a3 hP hD hS hl)
theorem zs_iand (B : zw_B p l s m args meth c cc nL ret own nm Ts tb D dA A) {x y : Int32} (hdg : decode cc pc = .ok (.iand, 1))  (kk : zw_k p l e R s m args below meth c Q D dA A ad0 n0 nL cells slots wl (pc + 1) lv (.int (x &&& y) :: st)) : zw_k p l e R s m args below meth c Q D dA A ad0 n0 nL cells slots wl pc lv (.int y :: .int x :: st) := fun ad H locs ls a1 a2 a3 hP hD hS hl => lv_iand B.1 B.2.1 hdg (kk ad H locs ls a1 a2 a3 hP hD hS hl)
theorem zs_idiv (B : zw_B p l s m args meth c cc nL ret own nm Ts tb D dA A) {x y : Int32} (hdg : decode cc pc = .ok (.idiv, 1)) (hne : ¬ y = 0) (kk : zw_k p l e R s m args below meth c Q D dA A ad0 n0 nL cells slots wl (pc + 1) lv (.int (x / y) :: st)) : zw_k p l e R s m args below meth c Q D dA A ad0 n0 nL cells slots wl pc lv (.int y :: .int x :: st) := fun ad H locs ls a1 a2 a3 hP hD hS hl => lv_idiv B.1 B.2.1 hdg hne (kk ad H locs ls a1 a2 a3 hP hD hS hl)
theorem zs_ladd (B : zw_B p l s m args meth c cc nL ret own nm Ts tb D dA A) {x y : Int64} (hdg : decode cc pc = .ok (.ladd, 1))  (kk : zw_k p l e R s m args below meth c Q D dA A ad0 n0 nL cells slots wl (pc + 1) lv (.long (x + y) :: st)) : zw_k p l e R s m args below meth c Q D dA A ad0 n0 nL cells slots wl pc lv (.long y :: .long x :: st) := fun ad H locs ls a1 a2 a3 hP hD hS hl => lv_ladd B.1 B.2.1 hdg (kk ad H locs ls a1 a2 a3 hP hD hS hl)
theorem zs_lmul (B : zw_B p l s m args meth c cc nL ret own nm Ts tb D dA A) {x y : Int64} (hdg : decode cc pc = .ok (.lmul, 1))  (kk : zw_k p l e R s m args below meth c Q D dA A ad0 n0 nL cells slots wl (pc + 1) lv (.long (x * y) :: st)) : zw_k p l e R s m args below meth c Q D dA A ad0 n0 nL cells slots wl pc lv (.long y :: .long x :: st) := fun ad H locs ls a1 a2 a3 hP hD hS hl => lv_lmul B.1 B.2.1 hdg (kk ad H locs ls a1 a2 a3 hP hD hS hl)
theorem zs_lcmp (B : zw_B p l s m args meth c cc nL ret own nm Ts tb D dA A) {x y : Int64} (hdg : decode cc pc = .ok (.lcmp, 1))  (kk : zw_k p l e R s m args below meth c Q D dA A ad0 n0 nL cells slots wl (pc + 1) lv (.int (lg_cmp x y) :: st)) : zw_k p l e R s m args below meth c Q D dA A ad0 n0 nL cells slots wl pc lv (.long y :: .long x :: st) := fun ad H locs ls a1 a2 a3 hP hD hS hl => W.lcmp B.1 B.2.1 hdg (kk ad H locs ls a1 a2 a3 hP hD hS hl)
theorem zs_i2l (B : zw_B p l s m args meth c cc nL ret own nm Ts tb D dA A) {x : Int32} (hdg : decode cc pc = .ok (.i2l, 1))  (kk : zw_k p l e R s m args below meth c Q D dA A ad0 n0 nL cells slots wl (pc + 1) lv (.long x.toInt64 :: st)) : zw_k p l e R s m args below meth c Q D dA A ad0 n0 nL cells slots wl pc lv (.int x :: st) := fun ad H locs ls a1 a2 a3 hP hD hS hl => lv_i2l B.1 B.2.1 hdg rfl (kk ad H locs ls a1 a2 a3 hP hD hS hl)
theorem zs_i2c (B : zw_B p l s m args meth c cc nL ret own nm Ts tb D dA A) {x : Int32} (hdg : decode cc pc = .ok (.i2c, 1))  (kk : zw_k p l e R s m args below meth c Q D dA A ad0 n0 nL cells slots wl (pc + 1) lv (.int (x.toUInt32 % 65536).toInt32 :: st)) : zw_k p l e R s m args below meth c Q D dA A ad0 n0 nL cells slots wl pc lv (.int x :: st) := fun ad H locs ls a1 a2 a3 hP hD hS hl => lv_i2c B.1 B.2.1 hdg rfl (kk ad H locs ls a1 a2 a3 hP hD hS hl)
theorem zs_dup (B : zw_B p l s m args meth c cc nL ret own nm Ts tb D dA A) {v : Value} (hdg : decode cc pc = .ok (.dup, 1)) (hv : v.category = 1) (kk : zw_k p l e R s m args below meth c Q D dA A ad0 n0 nL cells slots wl (pc + 1) lv (v :: v :: st)) : zw_k p l e R s m args below meth c Q D dA A ad0 n0 nL cells slots wl pc lv (v :: st) := fun ad H locs ls a1 a2 a3 hP hD hS hl => lv_dup B.1 B.2.1 hdg (by rw [zw_cv_cat]; exact hv) (kk ad H locs ls a1 a2 a3 hP hD hS hl)
theorem zs_pop (B : zw_B p l s m args meth c cc nL ret own nm Ts tb D dA A) {v : Value} (hdg : decode cc pc = .ok (.pop, 1)) (hv : v.category = 1) (kk : zw_k p l e R s m args below meth c Q D dA A ad0 n0 nL cells slots wl (pc + 1) lv (st)) : zw_k p l e R s m args below meth c Q D dA A ad0 n0 nL cells slots wl pc lv (v :: st) := fun ad H locs ls a1 a2 a3 hP hD hS hl => lv_pop B.1 B.2.1 hdg (by rw [zw_cv_cat]; exact hv) (kk ad H locs ls a1 a2 a3 hP hD hS hl)
theorem zs_icmp_eq (B : zw_B p l s m args meth c cc nL ret own nm Ts tb D dA A) {x y : Int32} {off : Int} {tgt : Nat} (hdg : decode cc pc = .ok (.if_icmp .eq off, 3)) (ht : (pc : Int) + off = (tgt : Int)) (kt : x = y → zw_k p l e R s m args below meth c Q D dA A ad0 n0 nL cells slots wl tgt lv st) (kf : ¬ x = y → zw_k p l e R s m args below meth c Q D dA A ad0 n0 nL cells slots wl (pc + 3) lv st) : zw_k p l e R s m args below meth c Q D dA A ad0 n0 nL cells slots wl pc lv (.int y :: .int x :: st) := fun ad H locs ls a1 a2 a3 hP hD hS hl => lv_icmp_eq B.1 B.2.1 hdg ht (fun q => kt q ad H locs ls a1 a2 a3 hP hD hS hl) (fun q => kf q ad H locs ls a1 a2 a3 hP hD hS hl)
theorem zs_if_eq (B : zw_B p l s m args meth c cc nL ret own nm Ts tb D dA A) {x : Int32} {off : Int} {tgt : Nat} (hdg : decode cc pc = .ok (.ifCond .eq off, 3)) (ht : (pc : Int) + off = (tgt : Int)) (kt : x = 0 → zw_k p l e R s m args below meth c Q D dA A ad0 n0 nL cells slots wl tgt lv st) (kf : ¬ x = 0 → zw_k p l e R s m args below meth c Q D dA A ad0 n0 nL cells slots wl (pc + 3) lv st) : zw_k p l e R s m args below meth c Q D dA A ad0 n0 nL cells slots wl pc lv (.int x :: st) := fun ad H locs ls a1 a2 a3 hP hD hS hl => lv_if_eq B.1 B.2.1 hdg ht (fun q => kt q ad H locs ls a1 a2 a3 hP hD hS hl) (fun q => kf q ad H locs ls a1 a2 a3 hP hD hS hl)
theorem zs_icmp_ne (B : zw_B p l s m args meth c cc nL ret own nm Ts tb D dA A) {x y : Int32} {off : Int} {tgt : Nat} (hdg : decode cc pc = .ok (.if_icmp .ne off, 3)) (ht : (pc : Int) + off = (tgt : Int)) (kt : ¬ x = y → zw_k p l e R s m args below meth c Q D dA A ad0 n0 nL cells slots wl tgt lv st) (kf : x = y → zw_k p l e R s m args below meth c Q D dA A ad0 n0 nL cells slots wl (pc + 3) lv st) : zw_k p l e R s m args below meth c Q D dA A ad0 n0 nL cells slots wl pc lv (.int y :: .int x :: st) := fun ad H locs ls a1 a2 a3 hP hD hS hl => lv_icmp_ne B.1 B.2.1 hdg ht (fun q => kt q ad H locs ls a1 a2 a3 hP hD hS hl) (fun q => kf q ad H locs ls a1 a2 a3 hP hD hS hl)
theorem zs_if_ne (B : zw_B p l s m args meth c cc nL ret own nm Ts tb D dA A) {x : Int32} {off : Int} {tgt : Nat} (hdg : decode cc pc = .ok (.ifCond .ne off, 3)) (ht : (pc : Int) + off = (tgt : Int)) (kt : ¬ x = 0 → zw_k p l e R s m args below meth c Q D dA A ad0 n0 nL cells slots wl tgt lv st) (kf : x = 0 → zw_k p l e R s m args below meth c Q D dA A ad0 n0 nL cells slots wl (pc + 3) lv st) : zw_k p l e R s m args below meth c Q D dA A ad0 n0 nL cells slots wl pc lv (.int x :: st) := fun ad H locs ls a1 a2 a3 hP hD hS hl => lv_if_ne B.1 B.2.1 hdg ht (fun q => kt q ad H locs ls a1 a2 a3 hP hD hS hl) (fun q => kf q ad H locs ls a1 a2 a3 hP hD hS hl)
theorem zs_icmp_lt (B : zw_B p l s m args meth c cc nL ret own nm Ts tb D dA A) {x y : Int32} {off : Int} {tgt : Nat} (hdg : decode cc pc = .ok (.if_icmp .lt off, 3)) (ht : (pc : Int) + off = (tgt : Int)) (kt : x < y → zw_k p l e R s m args below meth c Q D dA A ad0 n0 nL cells slots wl tgt lv st) (kf : ¬ x < y → zw_k p l e R s m args below meth c Q D dA A ad0 n0 nL cells slots wl (pc + 3) lv st) : zw_k p l e R s m args below meth c Q D dA A ad0 n0 nL cells slots wl pc lv (.int y :: .int x :: st) := fun ad H locs ls a1 a2 a3 hP hD hS hl => lv_icmp_lt B.1 B.2.1 hdg ht (fun q => kt q ad H locs ls a1 a2 a3 hP hD hS hl) (fun q => kf q ad H locs ls a1 a2 a3 hP hD hS hl)
theorem zs_if_lt (B : zw_B p l s m args meth c cc nL ret own nm Ts tb D dA A) {x : Int32} {off : Int} {tgt : Nat} (hdg : decode cc pc = .ok (.ifCond .lt off, 3)) (ht : (pc : Int) + off = (tgt : Int)) (kt : x < 0 → zw_k p l e R s m args below meth c Q D dA A ad0 n0 nL cells slots wl tgt lv st) (kf : ¬ x < 0 → zw_k p l e R s m args below meth c Q D dA A ad0 n0 nL cells slots wl (pc + 3) lv st) : zw_k p l e R s m args below meth c Q D dA A ad0 n0 nL cells slots wl pc lv (.int x :: st) := fun ad H locs ls a1 a2 a3 hP hD hS hl => lv_if_lt B.1 B.2.1 hdg ht (fun q => kt q ad H locs ls a1 a2 a3 hP hD hS hl) (fun q => kf q ad H locs ls a1 a2 a3 hP hD hS hl)
theorem zs_icmp_ge (B : zw_B p l s m args meth c cc nL ret own nm Ts tb D dA A) {x y : Int32} {off : Int} {tgt : Nat} (hdg : decode cc pc = .ok (.if_icmp .ge off, 3)) (ht : (pc : Int) + off = (tgt : Int)) (kt : y ≤ x → zw_k p l e R s m args below meth c Q D dA A ad0 n0 nL cells slots wl tgt lv st) (kf : ¬ y ≤ x → zw_k p l e R s m args below meth c Q D dA A ad0 n0 nL cells slots wl (pc + 3) lv st) : zw_k p l e R s m args below meth c Q D dA A ad0 n0 nL cells slots wl pc lv (.int y :: .int x :: st) := fun ad H locs ls a1 a2 a3 hP hD hS hl => lv_icmp_ge B.1 B.2.1 hdg ht (fun q => kt q ad H locs ls a1 a2 a3 hP hD hS hl) (fun q => kf q ad H locs ls a1 a2 a3 hP hD hS hl)
theorem zs_if_ge (B : zw_B p l s m args meth c cc nL ret own nm Ts tb D dA A) {x : Int32} {off : Int} {tgt : Nat} (hdg : decode cc pc = .ok (.ifCond .ge off, 3)) (ht : (pc : Int) + off = (tgt : Int)) (kt : 0 ≤ x → zw_k p l e R s m args below meth c Q D dA A ad0 n0 nL cells slots wl tgt lv st) (kf : ¬ 0 ≤ x → zw_k p l e R s m args below meth c Q D dA A ad0 n0 nL cells slots wl (pc + 3) lv st) : zw_k p l e R s m args below meth c Q D dA A ad0 n0 nL cells slots wl pc lv (.int x :: st) := fun ad H locs ls a1 a2 a3 hP hD hS hl => lv_if_ge B.1 B.2.1 hdg ht (fun q => kt q ad H locs ls a1 a2 a3 hP hD hS hl) (fun q => kf q ad H locs ls a1 a2 a3 hP hD hS hl)
theorem zs_icmp_gt (B : zw_B p l s m args meth c cc nL ret own nm Ts tb D dA A) {x y : Int32} {off : Int} {tgt : Nat} (hdg : decode cc pc = .ok (.if_icmp .gt off, 3)) (ht : (pc : Int) + off = (tgt : Int)) (kt : y < x → zw_k p l e R s m args below meth c Q D dA A ad0 n0 nL cells slots wl tgt lv st) (kf : ¬ y < x → zw_k p l e R s m args below meth c Q D dA A ad0 n0 nL cells slots wl (pc + 3) lv st) : zw_k p l e R s m args below meth c Q D dA A ad0 n0 nL cells slots wl pc lv (.int y :: .int x :: st) := fun ad H locs ls a1 a2 a3 hP hD hS hl => lv_icmp_gt B.1 B.2.1 hdg ht (fun q => kt q ad H locs ls a1 a2 a3 hP hD hS hl) (fun q => kf q ad H locs ls a1 a2 a3 hP hD hS hl)
theorem zs_if_gt (B : zw_B p l s m args meth c cc nL ret own nm Ts tb D dA A) {x : Int32} {off : Int} {tgt : Nat} (hdg : decode cc pc = .ok (.ifCond .gt off, 3)) (ht : (pc : Int) + off = (tgt : Int)) (kt : 0 < x → zw_k p l e R s m args below meth c Q D dA A ad0 n0 nL cells slots wl tgt lv st) (kf : ¬ 0 < x → zw_k p l e R s m args below meth c Q D dA A ad0 n0 nL cells slots wl (pc + 3) lv st) : zw_k p l e R s m args below meth c Q D dA A ad0 n0 nL cells slots wl pc lv (.int x :: st) := fun ad H locs ls a1 a2 a3 hP hD hS hl => lv_if_gt B.1 B.2.1 hdg ht (fun q => kt q ad H locs ls a1 a2 a3 hP hD hS hl) (fun q => kf q ad H locs ls a1 a2 a3 hP hD hS hl)
theorem zs_icmp_le (B : zw_B p l s m args meth c cc nL ret own nm Ts tb D dA A) {x y : Int32} {off : Int} {tgt : Nat} (hdg : decode cc pc = .ok (.if_icmp .le off, 3)) (ht : (pc : Int) + off = (tgt : Int)) (kt : x ≤ y → zw_k p l e R s m args below meth c Q D dA A ad0 n0 nL cells slots wl tgt lv st) (kf : ¬ x ≤ y → zw_k p l e R s m args below meth c Q D dA A ad0 n0 nL cells slots wl (pc + 3) lv st) : zw_k p l e R s m args below meth c Q D dA A ad0 n0 nL cells slots wl pc lv (.int y :: .int x :: st) := fun ad H locs ls a1 a2 a3 hP hD hS hl => lv_icmp_le B.1 B.2.1 hdg ht (fun q => kt q ad H locs ls a1 a2 a3 hP hD hS hl) (fun q => kf q ad H locs ls a1 a2 a3 hP hD hS hl)
theorem zs_if_le (B : zw_B p l s m args meth c cc nL ret own nm Ts tb D dA A) {x : Int32} {off : Int} {tgt : Nat} (hdg : decode cc pc = .ok (.ifCond .le off, 3)) (ht : (pc : Int) + off = (tgt : Int)) (kt : x ≤ 0 → zw_k p l e R s m args below meth c Q D dA A ad0 n0 nL cells slots wl tgt lv st) (kf : ¬ x ≤ 0 → zw_k p l e R s m args below meth c Q D dA A ad0 n0 nL cells slots wl (pc + 3) lv st) : zw_k p l e R s m args below meth c Q D dA A ad0 n0 nL cells slots wl pc lv (.int x :: st) := fun ad H locs ls a1 a2 a3 hP hD hS hl => lv_if_le B.1 B.2.1 hdg ht (fun q => kt q ad H locs ls a1 a2 a3 hP hD hS hl) (fun q => kf q ad H locs ls a1 a2 a3 hP hD hS hl)
theorem zs_goto (B : zw_B p l s m args meth c cc nL ret own nm Ts tb D dA A) {off : Int} {tgt : Nat} (hdg : decode cc pc = .ok (.goto off, 3)) (ht : (pc : Int) + off = (tgt : Int)) (kk : zw_k p l e R s m args below meth c Q D dA A ad0 n0 nL cells slots wl tgt lv st) : zw_k p l e R s m args below meth c Q D dA A ad0 n0 nL cells slots wl pc lv st := fun ad H locs ls a1 a2 a3 hP hD hS hl => lv_goto B.1 B.2.1 hdg ht (kk ad H locs ls a1 a2 a3 hP hD hS hl)
/-- a field's link: own's entry idx is field k of class ci, among the words Ts -/
def zw_F (Ts : List Cond) (own : String) (idx ci k : Nat) : Prop := ∃ (C : String) (T : u_T) (N : Nat), vwCl[ci]? = some (C, T, N) ∧ k < N ∧ (∀ w ∈ u_ws C T N, w ∈ Ts) ∧ Cond.fieldLink own idx C (T k).2.1 (T k).2.2.1 ∈ Ts ∧ (T k).1 = C
def zw_FN (Ts : List Cond) (own : String) (idx ci k : Nat) : Prop := ∃ (C : String) (T : u_T) (N : Nat), vwCl[ci]? = some (C, T, N) ∧ k < N ∧ (∀ w ∈ u_ws C T N, w ∈ Ts) ∧ Cond.fieldLinkNest own idx C (T k).2.1 (T k).2.2.1 "Twicebook" ∈ zw_nests ∧ (T k).1 = C
theorem zs_get (B : zw_B p l s m args meth c cc nL ret own nm Ts tb D dA A) {idx ci k a : Nat} {fs : List Value} {v : Value} (hf : zw_F Ts own idx ci k) (he : wl[a]? = some (.inr (ci, fs))) (hv : fs[k]? = some v) (hdg : decode cc pc = .ok (.getfield idx, 3)) (kk : zw_k p l e R s m args below meth c Q D dA A ad0 n0 nL cells slots wl (pc + 3) lv (v :: st)) : zw_k p l e R s m args below meth c Q D dA A ad0 n0 nL cells slots wl pc lv (.ref a :: st) := fun ad H locs ls a1 a2 a3 hP hD hS hl => by
  obtain ⟨C, T, N, h1, h2, h3, h4, h5⟩ := hf
  exact va_get (D := D) (cl := vwCl) B.1 B.2.1 B.2.2.2.2.2.1 h3 B.2.2.2.2.1 B.2.2.2.2.2.2.1.1 hP a (zw_of_at he) h1 k h2 (B.2.2.2.2.2.1 _ h4) (fun x hx => by rw [h5] at hx; exact hx) (by rw [List.getElem?_map, hv]; rfl) hdg (kk ad H locs ls a1 a2 a3 hP hD hS hl)
theorem zs_getN (B : zw_B p l s m args meth c cc nL ret own nm Ts tb D dA A) {idx ci k a : Nat} {fs : List Value} {v : Value} (hf : zw_FN Ts own idx ci k) (he : wl[a]? = some (.inr (ci, fs))) (hv : fs[k]? = some v) (hdg : decode cc pc = .ok (.getfield idx, 3)) (kk : zw_k p l e R s m args below meth c Q D dA A ad0 n0 nL cells slots wl (pc + 3) lv (v :: st)) : zw_k p l e R s m args below meth c Q D dA A ad0 n0 nL cells slots wl pc lv (.ref a :: st) := fun ad H locs ls a1 a2 a3 hP hD hS hl => by
  obtain ⟨C, T, N, h1, h2, h3, h4, h5⟩ := hf
  exact va_getN (D := D) (cl := vwCl) B.1 B.2.1 B.2.2.2.2.2.1 h3 B.2.2.2.2.1 B.2.2.2.2.2.2.1.1 hP a (zw_of_at he) h1 k h2 (va_Nw.use rfl (B.2.2.2.2.2.2.1.2.2.1 _ h4)) (fun x hx => by rw [h5] at hx; exact hx) (by rw [List.getElem?_map, hv]; rfl) hdg (kk ad H locs ls a1 a2 a3 hP hD hS hl)
theorem zw_tyok : ∀ (ci : Nat) (C : String) (T : u_T) (N : Nat), vwCl[ci]? = some (C, T, N) → ∃ ty : Nat → FieldType, (∀ k, k < N → parseFieldDescriptor (T k).2.2.1 = some (ty k)) ∧ (∀ a, a < N → ∀ b, b < N → a ≠ b → (T a).2.1 ≠ (T b).2.1) := by
  intro ci C T N h
  match ci, h with
  | 0, h => cases h; exact ⟨tyX0, tyX0_ok, nmX0⟩
  | 1, h => cases h; exact ⟨tyX1, tyX1_ok, nmX1⟩
  | 2, h => cases h; exact ⟨tyX2, tyX2_ok, nmX2⟩
  | 3, h => cases h; exact ⟨tyX3, tyX3_ok, nmX3⟩
  | 4, h => cases h; exact ⟨tyX4, tyX4_ok, nmX4⟩
  | 5, h => cases h; exact ⟨tyX5, tyX5_ok, nmX5⟩
  | n + 6, h => simp [vwCl] at h
/-- .. and what may be written into it -/
def zw_W (Ts : List Cond) (own : String) (idx ci k : Nat) (fin : Bool) (v : Value) : Prop := ∃ (C : String) (T : u_T) (N : Nat) (ty : FieldType), vwCl[ci]? = some (C, T, N) ∧ k < N ∧ (∀ w ∈ u_ws C T N, w ∈ Ts) ∧ Cond.fieldLink own idx C (T k).2.1 (T k).2.2.1 ∈ Ts ∧ (T k).1 = C ∧ (T k).2.2.2 = fin ∧ parseFieldDescriptor (T k).2.2.1 = some ty ∧ narrow ty v = v ∧ fits ty v = true
def zw_WN (Ts : List Cond) (own : String) (idx ci k : Nat) (v : Value) : Prop := ∃ (C : String) (T : u_T) (N : Nat) (ty : FieldType), vwCl[ci]? = some (C, T, N) ∧ k < N ∧ (∀ w ∈ u_ws C T N, w ∈ Ts) ∧ Cond.fieldLinkNest own idx C (T k).2.1 (T k).2.2.1 "Twicebook" ∈ zw_nests ∧ (T k).1 = C ∧ (T k).2.2.2 = false ∧ parseFieldDescriptor (T k).2.2.1 = some ty ∧ narrow ty v = v ∧ fits ty v = true
theorem zw_narrow_cv (ad : Nat → Nat) {ty : FieldType} {v : Value} (h : narrow ty v = v) : narrow ty (zw_cv ad v) = zw_cv ad v := by
  cases v with
  | ref k => cases ty <;> rfl
  | _ => exact h
theorem zw_fits_cv (ad : Nat → Nat) {ty : FieldType} {v : Value} (h : fits ty v = true) : fits ty (zw_cv ad v) = true := by
  cases v with
  | ref k => cases ty <;> exact h
  | _ => exact h
theorem zw_map_set (ad : Nat → Nat) (fs : List Value) (k : Nat) (v : Value) : (fs.map (zw_cv ad)).set k (zw_cv ad v) = (fs.set k v).map (zw_cv ad) := (List.map_set).symm
theorem zs_put (B : zw_B p l s m args meth c cc nL ret own nm Ts tb D dA A) {idx ci k a : Nat} {fs : List Value} {v : Value} (hf : zw_W Ts own idx ci k false v) (he : wl[a]? = some (.inr (ci, fs))) (hlk : k < fs.length) (hdg : decode cc pc = .ok (.putfield idx, 3)) (kk : zw_k p l e R s m args below meth c Q D dA A ad0 n0 nL cells slots (wl.set a (.inr (ci, fs.set k v))) (pc + 3) lv st) : zw_k p l e R s m args below meth c Q D dA A ad0 n0 nL cells slots wl pc lv (v :: .ref a :: st) := fun ad H locs ls a1 a2 a3 hP hD hS hl => by
  obtain ⟨C, T, N, ty, h1, h2, h3, h4, h5, h6, h7, h8, h9⟩ := hf
  obtain ⟨ty0, t1, t2⟩ := zw_tyok ci C T N h1
  refine va_put (D := D) (cl := vwCl) B.1 B.2.1 B.2.2.2.2.2.1 h3 ty0 t1 t2 B.2.2.2.2.1 B.2.2.2.2.2.2.1.1 hP hD hS a (zw_of_at he) h1 k h2 (B.2.2.2.2.2.1 _ h4) (fun x hx => by rw [h5] at hx; exact hx) h6 h7 (zw_narrow_cv ad h8) (zw_fits_cv ad h9) (by rw [List.length_map]; exact hlk) hdg (fun H1 locs1 hP1 hD1 hS1 => ?_)
  have e9 : ((zw_of dA ad wl).set a (ad a, .inr (ci, (fs.map (zw_cv ad)).set k (zw_cv ad v)))) = zw_of dA ad (wl.set a (.inr (ci, fs.set k v))) := by
    rw [zw_map_set]
    exact zw_of_set dA ad wl a (.inr (ci, fs.set k v))
  rw [e9] at hP1 hD1
  exact kk ad H1 locs1 ls a1 (fun q => a2 (by rw [List.length_set] at q; exact q)) (by rw [List.length_set]; exact a3) hP1 hD1 hS1 hl
theorem zs_putN (B : zw_B p l s m args meth c cc nL ret own nm Ts tb D dA A) {idx ci k a : Nat} {fs : List Value} {v : Value} (hf : zw_WN Ts own idx ci k v) (he : wl[a]? = some (.inr (ci, fs))) (hlk : k < fs.length) (hdg : decode cc pc = .ok (.putfield idx, 3)) (kk : zw_k p l e R s m args below meth c Q D dA A ad0 n0 nL cells slots (wl.set a (.inr (ci, fs.set k v))) (pc + 3) lv st) : zw_k p l e R s m args below meth c Q D dA A ad0 n0 nL cells slots wl pc lv (v :: .ref a :: st) := fun ad H locs ls a1 a2 a3 hP hD hS hl => by
  obtain ⟨C, T, N, ty, h1, h2, h3, h4, h5, h6, h7, h8, h9⟩ := hf
  obtain ⟨ty0, t1, t2⟩ := zw_tyok ci C T N h1
  refine va_putN (D := D) (cl := vwCl) B.1 B.2.1 B.2.2.2.2.2.1 h3 ty0 t1 t2 B.2.2.2.2.1 B.2.2.2.2.2.2.1.1 hP hD hS a (zw_of_at he) h1 k h2 (va_Nw.use rfl (B.2.2.2.2.2.2.1.2.2.1 _ h4)) (fun x hx => by rw [h5] at hx; exact hx) h6 h7 (zw_narrow_cv ad h8) (zw_fits_cv ad h9) (by rw [List.length_map]; exact hlk) hdg (fun H1 locs1 hP1 hD1 hS1 => ?_)
  have e9 : ((zw_of dA ad wl).set a (ad a, .inr (ci, (fs.map (zw_cv ad)).set k (zw_cv ad v)))) = zw_of dA ad (wl.set a (.inr (ci, fs.set k v))) := by
    rw [zw_map_set]
    exact zw_of_set dA ad wl a (.inr (ci, fs.set k v))
  rw [e9] at hP1 hD1
  exact kk ad H1 locs1 ls a1 (fun q => a2 (by rw [List.length_set] at q; exact q)) (by rw [List.length_set]; exact a3) hP1 hD1 hS1 hl
theorem zs_putF (B : zw_B p l s m args meth c cc nL ret own nm Ts tb D dA A) {idx ci k a : Nat} {fs : List Value} {v : Value} (hf : zw_W Ts own idx ci k true v) (hin1 : nm = "<init>") (hown9 : ∀ C, (∃ T N, vwCl[ci]? = some (C, T, N)) → C = own) (he : wl[a]? = some (.inr (ci, fs))) (hlk : k < fs.length) (hdg : decode cc pc = .ok (.putfield idx, 3)) (kk : zw_k p l e R s m args below meth c Q D dA A ad0 n0 nL cells slots (wl.set a (.inr (ci, fs.set k v))) (pc + 3) lv st) : zw_k p l e R s m args below meth c Q D dA A ad0 n0 nL cells slots wl pc lv (v :: .ref a :: st) := fun ad H locs ls a1 a2 a3 hP hD hS hl => by
  obtain ⟨C, T, N, ty, h1, h2, h3, h4, h5, h6, h7, h8, h9⟩ := hf
  obtain ⟨ty0, t1, t2⟩ := zw_tyok ci C T N h1
  refine va_putF (D := D) (cl := vwCl) B.1 B.2.1 B.2.2.2.2.2.1 h3 ty0 t1 t2 B.2.2.2.2.1 B.2.2.2.2.2.2.1.1 hP hD hS a (zw_of_at he) h1 k h2 (B.2.2.2.2.2.1 _ h4) (fun x hx => by rw [h5] at hx; exact hx) h6 (B.2.2.2.2.2.2.2.2.2.2.2.2.trans hin1) (by rw [h5]; exact hown9 C ⟨T, N, h1⟩) h7 (zw_narrow_cv ad h8) (zw_fits_cv ad h9) (by rw [List.length_map]; exact hlk) hdg (fun H1 locs1 hP1 hD1 hS1 => ?_)
  have e9 : ((zw_of dA ad wl).set a (ad a, .inr (ci, (fs.map (zw_cv ad)).set k (zw_cv ad v)))) = zw_of dA ad (wl.set a (.inr (ci, fs.set k v))) := by
    rw [zw_map_set]
    exact zw_of_set dA ad wl a (.inr (ci, fs.set k v))
  rw [e9] at hP1 hD1
  exact kk ad H1 locs1 ls a1 (fun q => a2 (by rw [List.length_set] at q; exact q)) (by rw [List.length_set]; exact a3) hP1 hD1 hS1 hl
theorem zs_alen (B : zw_B p l s m args meth c cc nL ret own nm Ts tb D dA A) {a t n : Nat} {x : (Nat → Int32) ⊕ (Nat → Int64) ⊕ (Nat → UInt32) ⊕ (Nat → UInt64) ⊕ (Nat → Option Nat)} {v : Int32} (he : wl[a]? = some (.inl (t, n, x))) (ht : t < 5) (hv : Int32.ofNat n = v) (hdg : decode cc pc = .ok (.arraylength, 1)) (kk : zw_k p l e R s m args below meth c Q D dA A ad0 n0 nL cells slots wl (pc + 1) lv (.int v :: st)) : zw_k p l e R s m args below meth c Q D dA A ad0 n0 nL cells slots wl pc lv (.ref a :: st) := fun ad H locs ls a1 a2 a3 hP hD hS hl => by
  have hn : (zw_cA ad (n, x)).1 = n := by unfold zw_cA; split <;> rfl
  obtain ⟨ty, ht⟩ : ∃ ty, (zw_tys dA)[t]? = some (dA t, ty) := by
    match t, ht with
    | 0, _ => exact ⟨_, rfl⟩
    | 1, _ => exact ⟨_, rfl⟩
    | 2, _ => exact ⟨_, rfl⟩
    | 3, _ => exact ⟨_, rfl⟩
    | 4, _ => exact ⟨_, rfl⟩
  exact va_alen (D := D) (cl := vwCl) B.1 B.2.1 B.2.2.2.2.2.2.1.1 hP a t (zw_of_at he) ht (by rw [hn]; exact hv) hdg (kk ad H locs ls a1 a2 a3 hP hD hS hl)
theorem zs_ial (B : zw_B p l s m args meth c cc nL ret own nm Ts tb D dA A) {a n : Nat} {f : Nat → Int32} {i : Int32} (j : Nat) (he : wl[a]? = some (.inl (0, n, .inl f))) (hj : j < n) (hn : n < 2 ^ 31) (hi : i = nI j) (hdg : decode cc pc = .ok (.iaload, 1)) (kk : zw_k p l e R s m args below meth c Q D dA A ad0 n0 nL cells slots wl (pc + 1) lv (.int (f j) :: st)) : zw_k p l e R s m args below meth c Q D dA A ad0 n0 nL cells slots wl pc lv (.int i :: .ref a :: st) := fun ad H locs ls a1 a2 a3 hP hD hS hl => by
  subst hi
  refine va_iald (D := D) (cl := vwCl) (f := f) B.1 B.2.1 B.2.2.2.2.2.2.1.1 hP a 0 (zw_of_at he) rfl (vp_in_nI hj hn) hdg ?_
  rw [nI_clamp (Nat.lt_trans hj hn)]
  exact (kk ad H locs ls a1 a2 a3 hP hD hS hl)
theorem zs_cal (B : zw_B p l s m args meth c cc nL ret own nm Ts tb D dA A) {a n : Nat} {f : Nat → Int32} {i : Int32} (j : Nat) (he : wl[a]? = some (.inl (1, n, .inl f))) (hj : j < n) (hn : n < 2 ^ 31) (hi : i = nI j) (hdg : decode cc pc = .ok (.caload, 1)) (kk : zw_k p l e R s m args below meth c Q D dA A ad0 n0 nL cells slots wl (pc + 1) lv (.int (f j) :: st)) : zw_k p l e R s m args below meth c Q D dA A ad0 n0 nL cells slots wl pc lv (.int i :: .ref a :: st) := fun ad H locs ls a1 a2 a3 hP hD hS hl => by
  subst hi
  refine va_cald (D := D) (cl := vwCl) (f := f) B.1 B.2.1 B.2.2.2.2.2.2.1.1 hP a 1 (zw_of_at he) rfl (vp_in_nI hj hn) hdg ?_
  rw [nI_clamp (Nat.lt_trans hj hn)]
  exact (kk ad H locs ls a1 a2 a3 hP hD hS hl)
theorem zs_lal (B : zw_B p l s m args meth c cc nL ret own nm Ts tb D dA A) {a n : Nat} {f : Nat → Int64} {i : Int32} (j : Nat) (he : wl[a]? = some (.inl (2, n, .inr (.inl f)))) (hj : j < n) (hn : n < 2 ^ 31) (hi : i = nI j) (hdg : decode cc pc = .ok (.laload, 1)) (kk : zw_k p l e R s m args below meth c Q D dA A ad0 n0 nL cells slots wl (pc + 1) lv (.long (f j) :: st)) : zw_k p l e R s m args below meth c Q D dA A ad0 n0 nL cells slots wl pc lv (.int i :: .ref a :: st) := fun ad H locs ls a1 a2 a3 hP hD hS hl => by
  subst hi
  refine va_lald (D := D) (cl := vwCl) (f := f) B.1 B.2.1 B.2.2.2.2.2.2.1.1 hP a 2 (zw_of_at he) rfl (vp_in_nI hj hn) hdg ?_
  rw [nI_clamp (Nat.lt_trans hj hn)]
  exact (kk ad H locs ls a1 a2 a3 hP hD hS hl)
theorem zs_ias (B : zw_B p l s m args meth c cc nL ret own nm Ts tb D dA A) {a n : Nat} {f : Nat → Int32} {i : Int32} {x : Int32} (j : Nat) (he : wl[a]? = some (.inl (0, n, .inl f))) (hj : j < n) (hn : n < 2 ^ 31) (hi : i = nI j) (hdg : decode cc pc = .ok (.iastore, 1)) (kk : zw_k p l e R s m args below meth c Q D dA A ad0 n0 nL cells slots (wl.set a (.inl (0, n, .inl (upd f j x)))) (pc + 1) lv st) : zw_k p l e R s m args below meth c Q D dA A ad0 n0 nL cells slots wl pc lv (.int x :: .int i :: .ref a :: st) := fun ad H locs ls a1 a2 a3 hP hD hS hl => by
  subst hi
  refine va_iast (D := D) (cl := vwCl) (f := f) B.1 B.2.1 B.2.2.2.2.2.2.1.1 hP hD hS a 0 (zw_of_at he) rfl (vp_in_nI hj hn) hdg (fun H1 locs1 hP1 hD1 hS1 => ?_)
  rw [nI_clamp (Nat.lt_trans hj hn)] at hP1 hD1
  have e9 := zw_of_set dA ad wl a (.inl (0, n, .inl (upd f j x)))
  rw [show zw_cE dA ad (.inl (0, n, .inl (upd f j x))) = .inl (dA 0, n, .inl (upd f j x)) from rfl] at e9
  rw [e9] at hP1 hD1
  exact kk ad H1 locs1 ls a1 (fun q => a2 (by rw [List.length_set] at q; exact q)) (by rw [List.length_set]; exact a3) hP1 hD1 hS1 hl
theorem zs_las (B : zw_B p l s m args meth c cc nL ret own nm Ts tb D dA A) {a n : Nat} {f : Nat → Int64} {i : Int32} {x : Int64} (j : Nat) (he : wl[a]? = some (.inl (2, n, .inr (.inl f)))) (hj : j < n) (hn : n < 2 ^ 31) (hi : i = nI j) (hdg : decode cc pc = .ok (.lastore, 1)) (kk : zw_k p l e R s m args below meth c Q D dA A ad0 n0 nL cells slots (wl.set a (.inl (2, n, .inr (.inl (vp_updL f j x))))) (pc + 1) lv st) : zw_k p l e R s m args below meth c Q D dA A ad0 n0 nL cells slots wl pc lv (.long x :: .int i :: .ref a :: st) := fun ad H locs ls a1 a2 a3 hP hD hS hl => by
  subst hi
  refine va_last (D := D) (cl := vwCl) (f := f) B.1 B.2.1 B.2.2.2.2.2.2.1.1 hP hD hS a 2 (zw_of_at he) rfl (vp_in_nI hj hn) hdg (fun H1 locs1 hP1 hD1 hS1 => ?_)
  rw [nI_clamp (Nat.lt_trans hj hn)] at hP1 hD1
  have e9 := zw_of_set dA ad wl a (.inl (2, n, .inr (.inl (vp_updL f j x))))
  rw [show zw_cE dA ad (.inl (2, n, .inr (.inl (vp_updL f j x)))) = .inl (dA 2, n, .inr (.inl (vp_updL f j x))) from rfl] at e9
  rw [e9] at hP1 hD1
  exact kk ad H1 locs1 ls a1 (fun q => a2 (by rw [List.length_set] at q; exact q)) (by rw [List.length_set]; exact a3) hP1 hD1 hS1 hl
theorem zs_cas (B : zw_B p l s m args meth c cc nL ret own nm Ts tb D dA A) {a n : Nat} {f : Nat → Int32} {i x : Int32} (j : Nat) (he : wl[a]? = some (.inl (1, n, .inl f))) (hj : j < n) (hn : n < 2 ^ 31) (hi : i = nI j) (hx : vp_nar .char x = x) (hdg : decode cc pc = .ok (.castore, 1)) (kk : zw_k p l e R s m args below meth c Q D dA A ad0 n0 nL cells slots (wl.set a (.inl (1, n, .inl (upd f j x)))) (pc + 1) lv st) : zw_k p l e R s m args below meth c Q D dA A ad0 n0 nL cells slots wl pc lv (.int x :: .int i :: .ref a :: st) := fun ad H locs ls a1 a2 a3 hP hD hS hl => by
  subst hi
  refine va_cast (D := D) (cl := vwCl) (f := f) B.1 B.2.1 B.2.2.2.2.2.2.1.1 hP hD hS a 1 (zw_of_at he) rfl (vp_in_nI hj hn) hdg (fun H1 locs1 hP1 hD1 hS1 => ?_)
  rw [nI_clamp (Nat.lt_trans hj hn), hx] at hP1 hD1
  have e9 := zw_of_set dA ad wl a (.inl (1, n, .inl (upd f j x)))
  rw [show zw_cE dA ad (.inl (1, n, .inl (upd f j x))) = .inl (dA 1, n, .inl (upd f j x)) from rfl] at e9
  rw [e9] at hP1 hD1
  exact kk ad H1 locs1 ls a1 (fun q => a2 (by rw [List.length_set] at q; exact q)) (by rw [List.length_set]; exact a3) hP1 hD1 hS1 hl
theorem zs_aal (B : zw_B p l s m args meth c cc nL ret own nm Ts tb D dA A) {a n t r : Nat} {f : Nat → Option Nat} {i : Int32} (j : Nat) (he : wl[a]? = some (.inl (t, n, .inr (.inr (.inr (.inr f)))))) (ht : t = 3 ∨ t = 4) (hj : j < n) (hn : n < 2 ^ 31) (hi : i = nI j) (hr : f j = some r) (hdg : decode cc pc = .ok (.aaload, 1)) (kk : zw_k p l e R s m args below meth c Q D dA A ad0 n0 nL cells slots wl (pc + 1) lv (.ref r :: st)) : zw_k p l e R s m args below meth c Q D dA A ad0 n0 nL cells slots wl pc lv (.int i :: .ref a :: st) := fun ad H locs ls a1 a2 a3 hP hD hS hl => by
  subst hi
  have hP0 : H[ad a]? = some (arrV (dA t) n (fun j => va_rf ((f j).map ad))) := hP a _ (zw_of_at he)
  have hcl : (nI j).toNatClampNeg = j := nI_clamp (Nat.lt_trans hj hn)
  have hk9 := (kk ad H locs ls a1 a2 a3 hP hD hS hl)
  have hin : ¬ (nI j < 0 ∨ (arrV (dA t) n (fun j => va_rf ((f j).map ad))).slots.size ≤ (nI j).toNatClampNeg) := by rw [arrV_size]; exact vp_in_nI hj hn
  have hv : (arrV (dA t) n (fun j => va_rf ((f j).map ad))).slots[(nI j).toNatClampNeg]? = some (.ref (ad r)) := by rw [hcl, arrV_read _ _ hj, hr]; rfl
  rcases ht with rfl | rfl
  · exact W.aald (v := .ref (ad r)) (ty := .object "Twicebook$Page") B.1 B.2.1 hP0 ((B.2.2.2.2.2.2.1.1.2 3 _ rfl).1 n _) rfl (fun q => by cases q) hin hv rfl rfl hdg hk9
  · exact W.aald (v := .ref (ad r)) (ty := .array .int) B.1 B.2.1 hP0 ((B.2.2.2.2.2.2.1.1.2 4 _ rfl).1 n _) rfl (fun q => by cases q) hin hv rfl rfl hdg hk9
theorem zs_aas (B : zw_B p l s m args meth c cc nL ret own nm Ts tb D dA A) {a n r : Nat} {f : Nat → Option Nat} {vs : List Value} {i : Int32} (j : Nat) (he : wl[a]? = some (.inl (3, n, .inr (.inr (.inr (.inr f)))))) (hr : wl[r]? = some (.inr (0, vs))) (hj : j < n) (hn : n < 2 ^ 31) (hi : i = nI j) (hdg : decode cc pc = .ok (.aastore, 1)) (kk : zw_k p l e R s m args below meth c Q D dA A ad0 n0 nL cells slots (wl.set a (.inl (3, n, .inr (.inr (.inr (.inr (va_up f j (some r)))))))) (pc + 1) lv st) : zw_k p l e R s m args below meth c Q D dA A ad0 n0 nL cells slots wl pc lv (.ref r :: .int i :: .ref a :: st) := fun ad H locs ls a1 a2 a3 hP hD hS hl => by
  subst hi
  refine va_astq (D := D) (cl := vwCl) (f := fun j => (f j).map ad) (vs := vs.map (zw_cv ad)) B.1 B.2.1 B.2.2.2.2.2.2.1.1 hP hD hS a 3 r 0 (zw_of_at he) rfl (zw_of_at hr) rfl (vp_in_nI hj hn) hdg (fun H1 locs1 hP1 hD1 hS1 => ?_)
  rw [nI_clamp (Nat.lt_trans hj hn)] at hP1 hD1
  have e8 : va_up (fun j => (f j).map ad) j (some (ad r)) = fun i => ((va_up f j (some r)) i).map ad := by
    funext i
    unfold va_up
    split <;> rfl
  rw [e8] at hP1 hD1
  have e9 := zw_of_set dA ad wl a (.inl (3, n, .inr (.inr (.inr (.inr (va_up f j (some r)))))))
  rw [show zw_cE dA ad (.inl (3, n, .inr (.inr (.inr (.inr (va_up f j (some r))))))) = .inl (dA 3, n, .inr (.inr (.inr (.inr (fun i => ((va_up f j (some r)) i).map ad))))) from rfl] at e9
  rw [e9] at hP1 hD1
  exact kk ad H1 locs1 ls a1 (fun q => a2 (by rw [List.length_set] at q; exact q)) (by rw [List.length_set]; exact a3) hP1 hD1 hS1 hl
theorem zs_eq {pc' : Nat} {lv' : List (Option Value)} {st' : List Value} {wl' : List zw_E} (h1 : wl = wl') (h2 : lv = lv') (h3 : st = st') (h4 : pc = pc') (kk : zw_k p l e R s m args below meth c Q D dA A ad0 n0 nL cells slots wl' pc' lv' st') : zw_k p l e R s m args below meth c Q D dA A ad0 n0 nL cells slots wl pc lv st := by subst h1; subst h2; subst h3; subst h4; exact kk
theorem zs_widen {k n : Nat} (h1 : cells ≤ k) (h2 : slots ≤ n) (kk : zw_k p l e R s m args below meth c Q D dA A ad0 n0 nL k n wl pc lv st) : zw_k p l e R s m args below meth c Q D dA A ad0 n0 nL cells slots wl pc lv st := fun ad H locs ls a1 a2 a3 hP hD hS hl => W.widen h1 h2 (kk ad H locs ls a1 a2 a3 hP hD hS hl)
theorem zs_topi {x : Int32} (kk : ∀ y : Int32, y = x → zw_k p l e R s m args below meth c Q D dA A ad0 n0 nL cells slots wl pc lv (.int y :: st)) : zw_k p l e R s m args below meth c Q D dA A ad0 n0 nL cells slots wl pc lv (.int x :: st) := kk x rfl
end ZS
