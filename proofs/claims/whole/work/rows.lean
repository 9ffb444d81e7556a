section
-- ===== PART A: goes FIRST, ahead of the names: the tables' words, and 'selects' of the private methods out of them =====
/-- a private method of a class that the tables say can be made, by its rows of tables_1 -/
def lw_okq (q : MethodName × Nat) : Prop := (q.1.cls ≠ "java/lang/invoke/MethodHandle" ∧ q.1.cls ≠ "java/lang/invoke/VarHandle") ∧ Cond.instantiable q.1.cls q.2 ∈ tables_1 ∧ Cond.privateMethod q.1 ∈ tables_1 ∧ Cond.instanceMethod q.1 ∈ tables_1
theorem lw_p0 : lw_okq (⟨"Twicebook", "beginChange", "()V"⟩, 4) := ⟨⟨by decide +kernel, by decide +kernel⟩, List.mem_of_getElem? (i := 16) (by decide +kernel), List.mem_of_getElem? (i := 137) (by decide +kernel), List.mem_of_getElem? (i := 138) (by decide +kernel)⟩
theorem lw_p1 : lw_okq (⟨"Twicebook", "movesGiveAsking", "()Z"⟩, 4) := ⟨⟨by decide +kernel, by decide +kernel⟩, List.mem_of_getElem? (i := 16) (by decide +kernel), List.mem_of_getElem? (i := 244) (by decide +kernel), List.mem_of_getElem? (i := 245) (by decide +kernel)⟩
theorem lw_p2 : lw_okq (⟨"Twicebook", "refuseKeyOutOfRange", "(I)V"⟩, 4) := ⟨⟨by decide +kernel, by decide +kernel⟩, List.mem_of_getElem? (i := 16) (by decide +kernel), List.mem_of_getElem? (i := 275) (by decide +kernel), List.mem_of_getElem? (i := 276) (by decide +kernel)⟩
theorem lw_p3 : lw_okq (⟨"java/lang/Throwable", "fillInStackTrace", "(I)Ljava/lang/Throwable;"⟩, 6) := ⟨⟨by decide +kernel, by decide +kernel⟩, List.mem_of_getElem? (i := 318) (by decide +kernel), List.mem_of_getElem? (i := 316) (by decide +kernel), List.mem_of_getElem? (i := 317) (by decide +kernel)⟩
theorem lw_p4 : lw_okq (⟨"Twicebook$Page", "dropEldest", "()I"⟩, 4) := ⟨⟨by decide +kernel, by decide +kernel⟩, List.mem_of_getElem? (i := 24) (by decide +kernel), List.mem_of_getElem? (i := 352) (by decide +kernel), List.mem_of_getElem? (i := 353) (by decide +kernel)⟩
theorem lw_p5 : lw_okq (⟨"Twicebook", "refuseAbsentKey", "(I)V"⟩, 4) := ⟨⟨by decide +kernel, by decide +kernel⟩, List.mem_of_getElem? (i := 16) (by decide +kernel), List.mem_of_getElem? (i := 381) (by decide +kernel), List.mem_of_getElem? (i := 382) (by decide +kernel)⟩
theorem lw_p6 : lw_okq (⟨"Twicebook", "refuseUnknownOrder", "(C)V"⟩, 4) := ⟨⟨by decide +kernel, by decide +kernel⟩, List.mem_of_getElem? (i := 16) (by decide +kernel), List.mem_of_getElem? (i := 438) (by decide +kernel), List.mem_of_getElem? (i := 439) (by decide +kernel)⟩
theorem lw_p7 : lw_okq (⟨"Twicebook", "refuseUnknownPlace", "(I)V"⟩, 4) := ⟨⟨by decide +kernel, by decide +kernel⟩, List.mem_of_getElem? (i := 16) (by decide +kernel), List.mem_of_getElem? (i := 451) (by decide +kernel), List.mem_of_getElem? (i := 452) (by decide +kernel)⟩
theorem lw_p8 : lw_okq (⟨"TwicebookModel", "no", "(ZI)Z"⟩, 19) := ⟨⟨by decide +kernel, by decide +kernel⟩, List.mem_of_getElem? (i := 594) (by decide +kernel), List.mem_of_getElem? (i := 672) (by decide +kernel), List.mem_of_getElem? (i := 673) (by decide +kernel)⟩
theorem lw_p9 : lw_okq (⟨"TwicebookModel", "changes", "()V"⟩, 19) := ⟨⟨by decide +kernel, by decide +kernel⟩, List.mem_of_getElem? (i := 594) (by decide +kernel), List.mem_of_getElem? (i := 676) (by decide +kernel), List.mem_of_getElem? (i := 677) (by decide +kernel)⟩
theorem lw_p10 : lw_okq (⟨"TwicebookModel", "keeps", "()V"⟩, 19) := ⟨⟨by decide +kernel, by decide +kernel⟩, List.mem_of_getElem? (i := 594) (by decide +kernel), List.mem_of_getElem? (i := 680) (by decide +kernel), List.mem_of_getElem? (i := 681) (by decide +kernel)⟩
theorem lw_p11 : lw_okq (⟨"TwicebookModel", "moved", "(II)V"⟩, 19) := ⟨⟨by decide +kernel, by decide +kernel⟩, List.mem_of_getElem? (i := 594) (by decide +kernel), List.mem_of_getElem? (i := 684) (by decide +kernel), List.mem_of_getElem? (i := 685) (by decide +kernel)⟩
theorem lw_p12 : lw_okq (⟨"TwicebookModel", "place", "([II)I"⟩, 19) := ⟨⟨by decide +kernel, by decide +kernel⟩, List.mem_of_getElem? (i := 594) (by decide +kernel), List.mem_of_getElem? (i := 691) (by decide +kernel), List.mem_of_getElem? (i := 692) (by decide +kernel)⟩
theorem lw_p13 : lw_okq (⟨"TwicebookModel", "comesIn", "(II)I"⟩, 19) := ⟨⟨by decide +kernel, by decide +kernel⟩, List.mem_of_getElem? (i := 594) (by decide +kernel), List.mem_of_getElem? (i := 695) (by decide +kernel), List.mem_of_getElem? (i := 696) (by decide +kernel)⟩
theorem lw_p14 : lw_okq (⟨"TwicebookModel", "row", "(C)[I"⟩, 19) := ⟨⟨by decide +kernel, by decide +kernel⟩, List.mem_of_getElem? (i := 594) (by decide +kernel), List.mem_of_getElem? (i := 699) (by decide +kernel), List.mem_of_getElem? (i := 700) (by decide +kernel)⟩
theorem lw_p15 : lw_okq (⟨"TwicebookModel", "out", "(I)V"⟩, 19) := ⟨⟨by decide +kernel, by decide +kernel⟩, List.mem_of_getElem? (i := 594) (by decide +kernel), List.mem_of_getElem? (i := 703) (by decide +kernel), List.mem_of_getElem? (i := 704) (by decide +kernel)⟩
def lw_privs_1 : List (MethodName × Nat) := [(⟨"Twicebook", "beginChange", "()V"⟩, 4), (⟨"Twicebook", "movesGiveAsking", "()Z"⟩, 4), (⟨"Twicebook", "refuseKeyOutOfRange", "(I)V"⟩, 4), (⟨"java/lang/Throwable", "fillInStackTrace", "(I)Ljava/lang/Throwable;"⟩, 6), (⟨"Twicebook$Page", "dropEldest", "()I"⟩, 4), (⟨"Twicebook", "refuseAbsentKey", "(I)V"⟩, 4), (⟨"Twicebook", "refuseUnknownOrder", "(C)V"⟩, 4), (⟨"Twicebook", "refuseUnknownPlace", "(I)V"⟩, 4), (⟨"TwicebookModel", "no", "(ZI)Z"⟩, 19), (⟨"TwicebookModel", "changes", "()V"⟩, 19), (⟨"TwicebookModel", "keeps", "()V"⟩, 19), (⟨"TwicebookModel", "moved", "(II)V"⟩, 19), (⟨"TwicebookModel", "place", "([II)I"⟩, 19), (⟨"TwicebookModel", "comesIn", "(II)I"⟩, 19), (⟨"TwicebookModel", "row", "(C)[I"⟩, 19), (⟨"TwicebookModel", "out", "(I)V"⟩, 19)]
theorem lw_r1 : ∀ q ∈ lw_privs_1, lw_okq q := List.forall_mem_cons.mpr ⟨lw_p0, List.forall_mem_cons.mpr ⟨lw_p1, List.forall_mem_cons.mpr ⟨lw_p2, List.forall_mem_cons.mpr ⟨lw_p3, List.forall_mem_cons.mpr ⟨lw_p4, List.forall_mem_cons.mpr ⟨lw_p5, List.forall_mem_cons.mpr ⟨lw_p6, List.forall_mem_cons.mpr ⟨lw_p7, List.forall_mem_cons.mpr ⟨lw_p8, List.forall_mem_cons.mpr ⟨lw_p9, List.forall_mem_cons.mpr ⟨lw_p10, List.forall_mem_cons.mpr ⟨lw_p11, List.forall_mem_cons.mpr ⟨lw_p12, List.forall_mem_cons.mpr ⟨lw_p13, List.forall_mem_cons.mpr ⟨lw_p14, List.forall_mem_cons.mpr ⟨lw_p15, fun _ h => absurd h List.not_mem_nil⟩⟩⟩⟩⟩⟩⟩⟩⟩⟩⟩⟩⟩⟩⟩⟩
theorem lw_p16 : lw_okq (⟨"TwicebookModel", "touched", "(I)V"⟩, 19) := ⟨⟨by decide +kernel, by decide +kernel⟩, List.mem_of_getElem? (i := 594) (by decide +kernel), List.mem_of_getElem? (i := 707) (by decide +kernel), List.mem_of_getElem? (i := 708) (by decide +kernel)⟩
theorem lw_p17 : lw_okq (⟨"TwicebookModel", "staying", "()I"⟩, 19) := ⟨⟨by decide +kernel, by decide +kernel⟩, List.mem_of_getElem? (i := 594) (by decide +kernel), List.mem_of_getElem? (i := 794) (by decide +kernel), List.mem_of_getElem? (i := 795) (by decide +kernel)⟩
def lw_privs_2 : List (MethodName × Nat) := [(⟨"TwicebookModel", "touched", "(I)V"⟩, 19), (⟨"TwicebookModel", "staying", "()I"⟩, 19)]
theorem lw_r2 : ∀ q ∈ lw_privs_2, lw_okq q := List.forall_mem_cons.mpr ⟨lw_p16, List.forall_mem_cons.mpr ⟨lw_p17, fun _ h => absurd h List.not_mem_nil⟩⟩
def lw_privs : List (MethodName × Nat) := lw_privs_1 ++ (lw_privs_2)
def lw_tbl : List Cond := k2_sels lw_privs ++ tables_1
theorem lw_privs_ok : ∀ q ∈ lw_privs, lw_okq q := by
  show ∀ q ∈ lw_privs_1 ++ (lw_privs_2), lw_okq q
  exact List.forall_mem_append.mpr ⟨lw_r1, lw_r2⟩
-- ===== end of PART A; then your names; then what follows =====
/-! ===== BEGIN words of one list among another's, by their places ===== -/
theorem goodIn_r {big : List Cond} (ws : List Cond) (ps : List Nat) (hp : ws = ps.filterMap (fun i => big[i]?)) (h : ws.all goodWord = true) : GoodIn big ws := by
  intro w hw
  have h1 := List.all_eq_true.mp h w hw
  rw [hp] at hw
  obtain ⟨i, -, hi⟩ := List.mem_filterMap.mp hw
  have hm : w ∈ big := by first | exact List.mem_of_getElem? hi | exact List.getElem?_mem hi
  exact ⟨hm, good_of_word h1⟩
theorem goodIn_app {big a b : List Cond} (ha : GoodIn big a) (hb : GoodIn big b) : GoodIn big (a ++ b) := fun w h => (List.mem_append.mp h).elim (ha w) (hb w)
theorem goodIn_ca {big a b : List Cond} {c : Cond} (ha : GoodIn big (c :: a)) (hb : GoodIn big b) : GoodIn big (c :: (a ++ b)) := fun w h => (List.mem_cons.mp h).elim (fun e => ha w (List.mem_cons.mpr (Or.inl e))) (fun h => (List.mem_append.mp h).elim (fun h => ha w (List.mem_cons.mpr (Or.inr h))) (hb w))
theorem goodIn_sub {big ws : List Cond} (hm : ∀ w ∈ ws, w ∈ big) (h : ws.all goodWord = true) : GoodIn big ws := fun w hw => ⟨hm w hw, good_of_word (List.all_eq_true.mp h w hw)⟩
/-! ===== END ===== -/

/-! ===== BEGIN exceptions that leave a method, and their catching by the caller (launches without stack traces) ===== -/
section VXA
/-! The laws vx_back, vx_callV, vx_callS, vx_callSW, vx_throw0, vx_throwS follow proofs of the library, with one case more: JvmDerived/Free/Laws.lean (Back.of_free), Shelf42/LK1.lean (callV, callS), Shelf/KitTraced.lean (throwNew0V, throwNewS). -/
/-- where a method has thrown q: the class by its name, the cell, what was written, the world -/
def vx_T (XC : String → State → State → Prop) (st : State) (q : Addr) (t : State) (mc ms : Nat) (free : Addr → Prop) : Prop :=
  ∃ (E : String) (ce : Cell) (L : List Loc), XC E st t ∧ t.heap[q]? = some ce ∧ ce.vm = .none ∧ st.vm.findClass E = some ce.cls ∧ st.WarmedH t.vm ∧ st.sameButNew ({ t with vm := st.vm } : State) L mc ms ∧ ∀ z ∈ L, free z.base
def vx_Q (Qc : Array Value → State → Outcome → State → Prop) (XC : String → State → State → Prop) (mc ms : Nat) (free : Addr → Prop) : Array Value → State → Outcome → State → Prop := fun a st o t =>
  (Qc a st o t ∧ ∃ L, FrameEnd st o t L mc ms ∧ ∀ q ∈ L, free q.base) ∨ ∃ q, o = .threw q ∧ vx_T XC st q t mc ms free
/-- a callee that returns or throws -/
def vx_Met (l : Launch) (y : MethodName) (ws : List Cond) (rm : Room) (Pc : Array Value → State → Prop) (Qc : Array Value → State → Outcome → State → Prop) (XC : String → State → State → Prop) (mc ms : Nat) (free : Addr → Prop) : Prop :=
  MetFree l y (headSpec ws rm) Pc (fun _ _ _ _ _ => True) (vx_Q Qc XC mc ms free)
def vx_Post (XC : String → State → State → Prop) (mc ms : Nat) (free : Addr → Prop) : Pt → Array Value → Addr → Pt → Prop := fun A a q B =>
  ∃ (g : JFrame) (mk : MethodId) (t : State) (L : List Loc) (E : String) (ce : Cell), B.U.heap = t.heap ∧ B.U.vm = t.vm ∧ XC E (A.U.calling g mk a) t ∧ t.heap[q]? = some ce ∧ ce.vm = .none ∧ A.U.vm.findClass E = some ce.cls ∧ B.locs = A.locs ++ L ∧ (∀ z ∈ L, free z.base) ∧ B.cells = A.cells + mc ∧ B.slots = A.slots + ms
def vx_Back (l : Launch) (R : Room) (p : Program) (e : Env) (below : List Frame) (s : State) (sargs : Array Value) (y : MethodName) (len W9 : Nat)
    (Pre : Pt → Array Value → Prop) (Post : Pt → Array Value → Option Value → Pt → Prop) (PostX : Pt → Array Value → Addr → Pt → Prop) : Prop :=
  ∀ (m : MethodId) (meth : Method) (c : Code) (A : Pt) (g : JFrame) (ig : Instr) (mk : MethodId) (a : Array Value),
    Stand p l e R s m sargs below meth c A.U A.locs A.cells A.slots → g.method = m → g.locals.size = c.maxLocals → decode c.code g.pc = .ok (ig, len) →
    2 * g.monitorRoom + (g.stack.map fun v => v.category).sum ≤ W9 → A.U.methodNamed? y = some mk → Pre A a →
    (∃ (v : Option Value) (B : Pt), Stand p l e R s m sargs below meth c B.U B.locs B.cells B.slots ∧ Post A a v B ∧
      Steps p.tables e below (doInvoke e (A.U.setTop g) [] mk a).1 (B.U.setTop { g with pc := g.pc + len, stack := v.toList ++ g.stack })) ∨
    (∃ (q : Addr) (B : Pt), Stand p l e R s m sargs below meth c B.U B.locs B.cells B.slots ∧ PostX A a q B ∧
      Steps p.tables e below (doInvoke e (A.U.setTop g) [] mk a).1 ((B.U.setTop g).pushFrame (.throwing q)))
section Payer
variable {l : Launch} {R : Room} {p : Program} {e : Env} {below : List Frame} {s : State} {sargs : Array Value} {y : MethodName} {len W9 : Nat}
theorem vx_back {ws : List Cond} {rm : Room} {Pc : Array Value → State → Prop} {Qc : Array Value → State → Outcome → State → Prop} {XC : String → State → State → Prop} {mc ms : Nat} {free : Addr → Prop} {bytes : ByteArray} {maxL : Nat} {ret : Option FieldType}
    (hM : vx_Met l y ws rm Pc Qc XC mc ms free) (hblind : FrameBlind Pc) (hrc : rm.cells = mc) (hrs : rm.slots = ms)
    (hframes : rm.frames + 1 ≤ R.frames) (hlocals : W9 + (maxL + 11) + rm.locals ≤ R.locals)
    (hws : ∀ w ∈ ws, ∀ a' U, s.WarmedH U.vm → w.before a' U = true) (hcode : Cond.code y bytes maxL ret ∈ ws) (hinit : ∀ a' U, s.WarmedH U.vm → (Cond.initialized y.cls).before a' U = true) :
    vx_Back l R p e below s sargs y len W9 (PreOf R mc ms Pc) (PostOf Qc mc ms free) (vx_Post XC mc ms free) := by
  intro m meth c A g ig mk a X hg hsize hdg hW hn hp
  have h1 : (headSpec ws rm).pre.before a A.U = true := atoms_intro fun w hw => hws w hw _ _ X.warmed
  have h2 : (Cond.code y bytes maxL ret).before a A.U = true := hws _ hcode _ _ X.warmed
  have h3 : (Cond.initialized y.cls).before a A.U = true := hinit _ _ X.warmed
  have h4 : A.cells + (headSpec ws rm).room.cells ≤ R.cells := by rw [show (headSpec ws rm).room.cells = mc from hrc]; exact hp.1
  have h5 : A.slots + (headSpec ws rm).room.slots ≤ R.slots := by rw [show (headSpec ws rm).room.slots = ms from hrs]; exact hp.2.1
  have hPc : Pc a (A.U.calling g mk a) := hblind _ _ _ _ hp.2.2
  obtain ⟨U, Ls, c0, s0⟩ := A
  dsimp only [Pt.U, Pt.locs, Pt.cells, Pt.slots] at h1 h2 h3 h4 h5 X hn hPc ⊢
  obtain ⟨methY, cY, hmY, hcY, -, hlY, -, -, -, -⟩ := Cond.code_spec hn h2
  obtain ⟨kY, hkY, -⟩ := className_of_methodNamed hn
  have hinitY : kY.init = .initialized := Cond.initialized_spec (findClass_of_methodNamed hn) hkY h3
  have h : At U g.method c below := by rw [hg]; exact X.here
  have hlocals9 : W9 + (maxL + 11) + (headSpec ws rm).room.locals ≤ R.locals := hlocals
  have happ : (headSpec ws rm).appliesLoose y e.platform (U.calling g mk a) = true :=
    Spec.appliesLoose_calling (g := g) h hdg hn hkY hinitY
      (X.room_calling (g := g) (R' := (headSpec ws rm).room) hsize hmY hcY hframes (by rw [hlY]; omega) h4 h5) h1
  obtain ⟨mid, hmid⟩ := h.above
  have hfr : (U.setTop g).frames = (.java g :: mid) ++ below := by rw [State.frames_setTop' g h.top, hmid]; rfl
  obtain ⟨o, s₂, hsteps, -, hend, hq⟩ := Steps.callFree hM p X.admits X.cas X.clock (acts := []) hfr happ hPc trivial
  have hq' : vx_Q Qc XC mc ms free a (U.calling g mk a) o s₂ := hq
  rw [State.frames_setTop' g h.top] at hend
  obtain ⟨g₀, hg0⟩ := Option.isSome_iff_exists.mp h.top
  obtain ⟨r, hr⟩ := State.topJava?_eq_some.mp hg0
  have hr' : (({ U with heap := s₂.heap, slotsUsed := s₂.slotsUsed } : State).setVm s₂.vm).frames = .java g₀ :: r := hr
  rcases hq' with ⟨hqc, L, hfe, hL⟩ | ⟨q, rfl, E, ce, L, hx, hce, hcv, hcl, hW₂, hsm, hL⟩
  · obtain ⟨⟨v, rfl⟩, hW₂, e2, q2, q3, q4, q5, q6⟩ := id hfe
    have e3 : s₂ = ({ (U.calling g mk a).setFrames s₂.frames with heap := s₂.heap, slotsUsed := s₂.slotsUsed } : State).setVm s₂.vm := by
      have : s₂ = ({ s₂ with vm := (U.calling g mk a).vm } : State).setVm s₂.vm := rfl
      rw [e2] at this
      exact this
    obtain ⟨c₂, i₂, len₂, hc₂, hd₂, hf₂⟩ := hend
    have hW' : U.WarmedH s₂.vm := hW₂
    have hcc : c₂ = c := by
      have h1 : s₂.code? g.method = U.code? g.method := by
        rw [State.code?_eq, State.code?_eq, hW'.alike.method?]
      exact Option.some.inj (hc₂.symm.trans (h1.trans h.code))
    subst hcc
    have hlen : len₂ = len := by rw [hdg] at hd₂; cases hd₂; rfl
    subst hlen
    have hs₂ : s₂ = (({ U with heap := s₂.heap, slotsUsed := s₂.slotsUsed } : State).setVm s₂.vm).setTop { g with pc := g.pc + len₂, stack := v.toList ++ g.stack } := by
      refine e3.trans ?_
      rw [hf₂, State.calling_eq h.top, State.setFrames_setFrames, State.setTop_of_frames _ hr', hr]
      rfl
    have hsame : U.sameButNew ({ U with heap := s₂.heap, slotsUsed := s₂.slotsUsed } : State) L mc ms := by
      refine ⟨?_, q2, q3, q4, q5, q6⟩
      obtain ⟨t, ht, -⟩ := State.frames_cons hr
      show ({ U with heap := s₂.heap, slotsUsed := s₂.slotsUsed } : State) = { U.setFrames U.frames with heap := s₂.heap, slotsUsed := s₂.slotsUsed }
      rw [State.setFrames_self ht]
    subst hg
    refine Or.inl ⟨v, ⟨(({ U with heap := s₂.heap, slotsUsed := s₂.slotsUsed } : State).setVm s₂.vm), Ls ++ L, c0 + mc, s0 + ms⟩,
      ⟨X.admits, X.cas, X.clock, X.frames, X.room, X.hears, X.method, X.code, (X.here.setHeapUsed s₂.heap s₂.slotsUsed).setVm hW'.alike, X.tail, State.WarmedH.trans X.warmed hW', X.limits, X.bytes, X.same.trans (hsame.setVm s.vm)⟩,
      ⟨g, mk, s₂, L, rfl, rfl, hqc, rfl, hL, rfl, rfl⟩, ?_⟩
    show Steps p.tables e below _ ((({ U with heap := s₂.heap, slotsUsed := s₂.slotsUsed } : State).setVm s₂.vm).setTop { g with pc := g.pc + len₂, stack := v.toList ++ g.stack })
    rw [← hs₂]
    exact hsteps
  · obtain ⟨e2, q2, q3, q4, q5, q6⟩ := id hsm
    have e3 : s₂ = ({ (U.calling g mk a).setFrames s₂.frames with heap := s₂.heap, slotsUsed := s₂.slotsUsed } : State).setVm s₂.vm := by
      have : s₂ = ({ s₂ with vm := (U.calling g mk a).vm } : State).setVm s₂.vm := rfl
      rw [e2] at this
      exact this
    have hf₂ : s₂.frames = .throwing q :: .java g :: U.frames.tail := hend
    have hW' : U.WarmedH s₂.vm := hW₂
    have hs₂ : s₂ = ((({ U with heap := s₂.heap, slotsUsed := s₂.slotsUsed } : State).setVm s₂.vm).setTop g).pushFrame (.throwing q) := by
      refine e3.trans ?_
      rw [hf₂, State.calling_eq h.top, State.setFrames_setFrames, State.pushFrame, State.frames_setTop _ hr', State.setTop_of_frames _ hr', State.setFrames_setFrames, hr]
      rfl
    have hsame : U.sameButNew ({ U with heap := s₂.heap, slotsUsed := s₂.slotsUsed } : State) L mc ms := by
      refine ⟨?_, q2, q3, q4, q5, q6⟩
      obtain ⟨t, ht, -⟩ := State.frames_cons hr
      show ({ U with heap := s₂.heap, slotsUsed := s₂.slotsUsed } : State) = { U.setFrames U.frames with heap := s₂.heap, slotsUsed := s₂.slotsUsed }
      rw [State.setFrames_self ht]
    subst hg
    refine Or.inr ⟨q, ⟨(({ U with heap := s₂.heap, slotsUsed := s₂.slotsUsed } : State).setVm s₂.vm), Ls ++ L, c0 + mc, s0 + ms⟩,
      ⟨X.admits, X.cas, X.clock, X.frames, X.room, X.hears, X.method, X.code, (X.here.setHeapUsed s₂.heap s₂.slotsUsed).setVm hW'.alike, X.tail, State.WarmedH.trans X.warmed hW', X.limits, X.bytes, X.same.trans (hsame.setVm s.vm)⟩,
      ⟨g, mk, s₂, L, E, ce, rfl, rfl, hx, hce, hcv, hcl, rfl, hL, rfl, rfl⟩, ?_⟩
    show Steps p.tables e below _ (((({ U with heap := s₂.heap, slotsUsed := s₂.slotsUsed } : State).setVm s₂.vm).setTop g).pushFrame (.throwing q))
    rw [← hs₂]
    exact hsteps
end Payer
section Calls
variable {p : Program} {l : Launch} {e : Env} {R : Room} {s : State} {m : MethodId} {args : Array Value} {below : List Frame} {meth : Method} {c : Code} {T : State} {locs : List Loc} {cells slots : Nat}
theorem vx_callV (X : Stand p l e R s m args below meth c T locs cells slots) (hexec : p.tables.exec = Jvm.exec) {own C : String} {index : Nat} {y : MethodName} {bytes : ByteArray} {maxL : Nat} {ret : Option FieldType}
    (hown : s.vm.findClass own = some m.cls) (hlink : (Cond.methodLink own index y).before args s = true) (hinst : (Cond.instanceMethod y).before args s = true) (hsel : (Cond.selects C y y).before args s = true)
    (hcode : (Cond.code y bytes maxL ret).before args s = true) (hy : y.cls ≠ "java/lang/invoke/MethodHandle" ∧ y.cls ≠ "java/lang/invoke/VarHandle")
    {W9 : Nat} {Pre : Pt → Array Value → Prop} {Post : Pt → Array Value → Option Value → Pt → Prop} {PostX : Pt → Array Value → Addr → Pt → Prop} (hK : vx_Back l R p e below s args y 3 W9 Pre Post PostX)
    {b : Addr} {cellB : Cell} (hcell : T.heap[b]? = some cellB) (hobj : cellB.vm.isStatics = false) (hcls : s.vm.findClass C = some cellB.cls)
    {g : JFrame} (hg : g.method = m) (hsize : g.locals.size = c.maxLocals) {argsL rest : List Value} (hlen : ∀ sig, parseMethodDescriptor y.desc = some sig → argsL.length = sig.parameters.length)
    (hstack : g.stack = argsL.reverse ++ .ref b :: rest) (hW : 2 * g.monitorRoom + (rest.map fun v => v.category).sum ≤ W9) (hdg : decode c.code g.pc = .ok (.invokevirtual index, 3))
    (hpre : ∀ vm₁, s.WarmedH vm₁ → Pre ⟨T.setVm vm₁, locs, cells, slots⟩ (Value.ref b :: argsL).toArray) :
    (∃ (v : Option Value) (vm₁ : Vm) (B : Pt), s.WarmedH vm₁ ∧ Stand p l e R s m args below meth c B.U B.locs B.cells B.slots ∧ Post ⟨T.setVm vm₁, locs, cells, slots⟩ (Value.ref b :: argsL).toArray v B ∧
      ∀ target, Steps p.tables e below (B.U.setTop { g with pc := g.pc + 3, stack := v.toList ++ rest }) target → Steps p.tables e below (T.setTop g) target) ∨
    (∃ (q : Addr) (vm₁ : Vm) (B : Pt), s.WarmedH vm₁ ∧ Stand p l e R s m args below meth c B.U B.locs B.cells B.slots ∧ PostX ⟨T.setVm vm₁, locs, cells, slots⟩ (Value.ref b :: argsL).toArray q B ∧
      Steps p.tables e below (T.setTop g) ((B.U.setTop { g with stack := rest }).pushFrame (.throwing q))) := by
  obtain ⟨mk, methM, hnamed, hmethM, hstM, habM⟩ := Cond.instanceMethod_spec hinst
  obtain ⟨methM', cM, hmethM', -, -, -, -, -, -, hsigM⟩ := Cond.code_spec hnamed hcode
  cases hmethM.symm.trans hmethM'
  obtain ⟨c2, r2, m2, q1, q2, q3, q4, kP, hkP, hkPi⟩ := Cond.selects_spec hsel
  cases hcls.symm.trans q1
  cases (State.methodFound?_of_named hnamed hy).symm.trans q2
  cases hnamed.symm.trans q3
  have hselP : selectMethod e.platform s.vm cellB.cls mk = .method mk := by rw [Launch.admits_selectMethod X.admits]; exact q4
  obtain ⟨vm₁, X₁, hstep₁⟩ := X.invokevirtual hexec hown hlink hnamed hmethM hstM hkP hkPi hy (a := b) (cell := cellB) hcell
    (fun z h => by rw [h] at hobj; cases hobj) hselP hmethM habM hkP hkPi (g := g) hg (argsL := argsL) (rest := rest) (hlen _ hsigM) hstack hdg
  rcases hK m meth c ⟨T.setVm vm₁, locs, cells, slots⟩ { g with stack := rest } (.invokevirtual index) mk (Value.ref b :: argsL).toArray X₁ hg hsize hdg hW (X₁.named hnamed) (hpre vm₁ X₁.warmed) with ⟨v, B, X', hpost, hsteps⟩ | ⟨q, B, X', hpost, hsteps⟩
  · exact Or.inl ⟨v, vm₁, B, X₁.warmed, X', hpost, fun target h => hstep₁ _ fun acts => by rw [doInvoke_state]; exact hsteps.trans h⟩
  · exact Or.inr ⟨q, vm₁, B, X₁.warmed, X', hpost, hstep₁ _ fun acts => by rw [doInvoke_state]; exact hsteps⟩
theorem vx_callS (X : Stand p l e R s m args below meth c T locs cells slots) (hexec : p.tables.exec = Jvm.exec) {own : String} {index : Nat} {y : MethodName} {bytes : ByteArray} {maxL : Nat} {ret : Option FieldType}
    (hown : s.vm.findClass own = some m.cls) (hlink : (Cond.methodLink own index y).before args s = true) (hstat : (Cond.static y).before args s = true) (hinit : (Cond.initialized y.cls).before args s = true)
    (hcode : (Cond.code y bytes maxL ret).before args s = true) (hy : y.cls ≠ "java/lang/invoke/MethodHandle" ∧ y.cls ≠ "java/lang/invoke/VarHandle")
    {W9 : Nat} {Pre : Pt → Array Value → Prop} {Post : Pt → Array Value → Option Value → Pt → Prop} {PostX : Pt → Array Value → Addr → Pt → Prop} (hK : vx_Back l R p e below s args y 3 W9 Pre Post PostX)
    {g : JFrame} (hg : g.method = m) (hsize : g.locals.size = c.maxLocals) {argsL rest : List Value} (hlen : ∀ sig, parseMethodDescriptor y.desc = some sig → argsL.length = sig.parameters.length)
    (hstack : g.stack = argsL.reverse ++ rest) (hW : 2 * g.monitorRoom + (rest.map fun v => v.category).sum ≤ W9) (hdg : decode c.code g.pc = .ok (.invokestatic index, 3))
    (hpre : ∀ vm₁, s.WarmedH vm₁ → Pre ⟨T.setVm vm₁, locs, cells, slots⟩ argsL.toArray) :
    (∃ (v : Option Value) (vm₁ : Vm) (B : Pt), s.WarmedH vm₁ ∧ Stand p l e R s m args below meth c B.U B.locs B.cells B.slots ∧ Post ⟨T.setVm vm₁, locs, cells, slots⟩ argsL.toArray v B ∧
      ∀ target, Steps p.tables e below (B.U.setTop { g with pc := g.pc + 3, stack := v.toList ++ rest }) target → Steps p.tables e below (T.setTop g) target) ∨
    (∃ (q : Addr) (vm₁ : Vm) (B : Pt), s.WarmedH vm₁ ∧ Stand p l e R s m args below meth c B.U B.locs B.cells B.slots ∧ PostX ⟨T.setVm vm₁, locs, cells, slots⟩ argsL.toArray q B ∧
      Steps p.tables e below (T.setTop g) ((B.U.setTop { g with stack := rest }).pushFrame (.throwing q))) := by
  obtain ⟨mk, hnamed⟩ := Cond.code_named hcode
  obtain ⟨methM, cM, hmethM, -, -, -, -, -, -, hsigM⟩ := Cond.code_spec hnamed hcode
  have hstatic : methM.isStatic = true := Cond.static_spec hnamed hmethM hstat
  obtain ⟨kP, hkP, -⟩ := className_of_methodNamed hnamed
  have hinitP : kP.init = .initialized := Cond.initialized_spec (findClass_of_methodNamed hnamed) hkP hinit
  obtain ⟨vm₁, X₁, hstep₁⟩ := X.invokestatic hexec hown hlink hnamed hmethM hstatic hkP hinitP hy (g := g) hg (argsL := argsL) (rest := rest) (hlen _ hsigM) hstack hdg
  rcases hK m meth c ⟨T.setVm vm₁, locs, cells, slots⟩ { g with stack := rest } (.invokestatic index) mk argsL.toArray X₁ hg hsize hdg hW (X₁.named hnamed) (hpre vm₁ X₁.warmed) with ⟨v, B, X', hpost, hsteps⟩ | ⟨q, B, X', hpost, hsteps⟩
  · exact Or.inl ⟨v, vm₁, B, X₁.warmed, X', hpost, fun target h => hstep₁ _ fun acts => by rw [doInvoke_state]; exact hsteps.trans h⟩
  · exact Or.inr ⟨q, vm₁, B, X₁.warmed, X', hpost, hstep₁ _ fun acts => by rw [doInvoke_state]; exact hsteps⟩
end Calls
theorem vx_cls {s : State} {T : State} {vm₁ : Vm} {E : String} {k : ClassId} (hW : s.WarmedH vm₁) (h : (T.setVm vm₁).vm.findClass E = some k) : s.vm.findClass E = some k := by
  have h1 : vm₁.findClass E = some k := h
  rw [hW.alike.findClass] at h1
  exact h1
/-- the method's frame g, with q thrown over it -/
def vx_W (p : Program) (l : Launch) (e : Env) (R : Room) (s : State) (m : MethodId) (args : Array Value) (below : List Frame) (meth : Method) (c : Code) (H : Heap) (locs : List Loc) (cells slots : Nat) (Q : State → Prop) (g : JFrame) (q : Addr) : Prop :=
  ∀ T : State, T.heap = H → Stand p l e R s m args below meth c T locs cells slots → ∃ t, Steps p.tables e below ((T.setTop g).pushFrame (.throwing q)) t ∧ Q t
def vx_Run (p : Program) (l : Launch) (e : Env) (R : Room) (s : State) (m : MethodId) (args : Array Value) (below : List Frame) (meth : Method) (c : Code) (H : Heap) (locs : List Loc) (cells slots mc ms : Nat) (g : JFrame) (rest : List Value) (Qa : State → Outcome → State → Prop) (XC : String → State → State → Prop) (free : Addr → Prop) : Prop :=
  ∀ T : State, T.heap = H → Stand p l e R s m args below meth c T locs cells slots →
    (∃ (v : Option Value) (st₀ t T' : State) (L : List Loc), st₀.heap = H ∧ Stand p l e R s m args below meth c T' (locs ++ L) (cells + mc) (slots + ms) ∧ (∀ q ∈ L, free q.base) ∧ T'.heap = t.heap ∧ T'.vm = t.vm ∧ Qa st₀ (.returned v) t ∧
      Goes p e below T g T' { g with pc := g.pc + 3, stack := v.toList ++ rest }) ∨
    (∃ (q : Addr) (st₀ t T' : State) (L : List Loc) (E : String) (ce : Cell), st₀.heap = H ∧ Stand p l e R s m args below meth c T' (locs ++ L) (cells + mc) (slots + ms) ∧ (∀ z ∈ L, free z.base) ∧ T'.heap = t.heap ∧ T'.vm = t.vm ∧ XC E st₀ t ∧ t.heap[q]? = some ce ∧ ce.vm = .none ∧ s.vm.findClass E = some ce.cls ∧
      Steps p.tables e below (T.setTop g) ((T'.setTop { g with stack := rest }).pushFrame (.throwing q)))
def vx_X {S : Type} (px : S → Prop) (B : String → S → State → Prop) (A : Nat → Prop) : String → State → State → Prop := fun E st t => ∃ u : S, px u ∧ B E u t ∧ va_F A st t
section Runs
variable {p : Program} {l : Launch} {e : Env} {R : Room} {s : State} {m : MethodId} {args : Array Value} {below : List Frame} {meth : Method} {c : Code} {H : Heap} {locs : List Loc} {cells slots : Nat}
variable {y : MethodName} {bytes cc : ByteArray} {maxL nL mc ms n index : Nat} {ret : Option FieldType} {ws : List Cond} {rm : Room} {Pc : Array Value → State → Prop} {Qc : Array Value → State → Outcome → State → Prop} {XC : String → State → State → Prop} {free : Addr → Prop} {Ts : List Cond} {own C : String} {b : Addr} {As rest : List Value} {g : JFrame}
theorem vx_callBack (cb : CallB R s args own index y bytes maxL ret ws rm mc ms n) (hM : vx_Met l y ws rm Pc Qc XC mc ms free) (hbl : FrameBlind Pc) : vx_Back l R p e below s args y 3 8 (PreOf R mc ms Pc) (PostOf Qc mc ms free) (vx_Post XC mc ms free) := by
  obtain ⟨hrc, hrs, hfr, hlo, hws, hcw, -, hini, -⟩ := cb
  exact vx_back (bytes := bytes) (maxL := maxL) (ret := ret) hM hbl hrc hrs hfr hlo hws hcw (fun a' U hW => word_at hW (Or.inl (by first | rfl | simp [Cond.onTables, Cond.keeps, Cond.steady])) hini)
theorem vx_runV (S : CallFix p m c cc nL s args Ts own) (hM : vx_Met l y ws rm Pc Qc XC mc ms free) (cw : CallW R s args own C index y bytes maxL ret ws rm mc ms n) (hp : PreV s H C b Pc As)
    (hg : g.method = m) (hn : As.length = n) (hsize : g.locals.size = nL) (hstack : g.stack = As.reverse ++ .ref b :: rest) (hW : 2 * g.monitorRoom + (rest.map fun v => v.category).sum ≤ 8) (hdg : decode cc g.pc = .ok (.invokevirtual index, 3)) (hf : cells + mc ≤ R.cells ∧ slots + ms ≤ R.slots) :
    vx_Run p l e R s m args below meth c H locs cells slots mc ms g rest (Qc (Value.ref b :: As).toArray) XC free := by
  have hK : vx_Back l R p e below s args y 3 8 (PreOf R mc ms Pc) (PostOf Qc mc ms free) (vx_Post XC mc ms free) := vx_callBack cw.1 hM hp.1
  obtain ⟨⟨-, -, -, -, -, -, hcode, -, hy, hlen, hl⟩, hin, hse⟩ := cw
  obtain ⟨hx, hb, hml, ho, -⟩ := S
  obtain ⟨-, ⟨cellB, hcB, hoB, hclB⟩, hPc⟩ := hp
  intro T hT X
  rcases vx_callV X hx (C := C) (bytes := bytes) (maxL := maxL) (ret := ret) ho hl hin hse hcode hy hK (by rw [hT]; exact hcB) hoB hclB hg (hsize.trans hml.symm) (argsL := As) (rest := rest) (fun sig h => hn.trans (hlen sig h)) hstack hW (by rw [hb]; exact hdg)
    (fun vm₁ hW₁ => ⟨hf.1, hf.2, hPc (T.setVm vm₁) hT hW₁⟩) with ⟨v, vm₁, ⟨U', l2, c2, s2⟩, hW₁, X', ⟨g', mk, t, L, e1, e2, hq, h1, hL, h2, h3⟩, st⟩ | ⟨q, vm₁, ⟨U', l2, c2, s2⟩, hW₁, X', ⟨g', mk, t, L, E, ce, e1, e2, hq, hce, hcv, hcl, h1, hL, h2, h3⟩, st⟩
  · dsimp only [Pt.U, Pt.locs, Pt.cells, Pt.slots] at X' e1 e2 h1 h2 h3 st
    subst h1; subst h2; subst h3
    exact Or.inl ⟨v, (T.setVm vm₁).calling g' mk (Value.ref b :: As).toArray, t, U', L, hT, X', hL, e1, e2, hq, st⟩
  · dsimp only [Pt.U, Pt.locs, Pt.cells, Pt.slots] at X' e1 e2 h1 h2 h3 st hcl
    subst h1; subst h2; subst h3
    exact Or.inr ⟨q, (T.setVm vm₁).calling g' mk (Value.ref b :: As).toArray, t, U', L, E, ce, hT, X', hL, e1, e2, hq, hce, hcv, vx_cls hW₁ hcl, st⟩
theorem vx_runS (S : CallFix p m c cc nL s args Ts own) (hM : vx_Met l y ws rm Pc Qc XC mc ms free) (cw : CallB R s args own index y bytes maxL ret ws rm mc ms n ∧ (Cond.static y).before args s = true) (hp : PreS s H Pc As)
    (hg : g.method = m) (hn : As.length = n) (hsize : g.locals.size = nL) (hstack : g.stack = As.reverse ++ rest) (hW : 2 * g.monitorRoom + (rest.map fun v => v.category).sum ≤ 8) (hdg : decode cc g.pc = .ok (.invokestatic index, 3)) (hf : cells + mc ≤ R.cells ∧ slots + ms ≤ R.slots) :
    vx_Run p l e R s m args below meth c H locs cells slots mc ms g rest (Qc As.toArray) XC free := by
  have hK : vx_Back l R p e below s args y 3 8 (PreOf R mc ms Pc) (PostOf Qc mc ms free) (vx_Post XC mc ms free) := vx_callBack cw.1 hM hp.1
  obtain ⟨⟨-, -, -, -, -, -, hcode, hini, hy, hlen, hl⟩, hstt⟩ := cw
  obtain ⟨hx, hb, hml, ho, -⟩ := S
  intro T hT X
  rcases vx_callS X hx (bytes := bytes) (maxL := maxL) (ret := ret) ho hl hstt hini hcode hy hK hg (hsize.trans hml.symm) (argsL := As) (rest := rest) (fun sig h => hn.trans (hlen sig h)) hstack hW (by rw [hb]; exact hdg)
    (fun vm₁ hW₁ => ⟨hf.1, hf.2, hp.2 (T.setVm vm₁) hT hW₁⟩) with ⟨v, vm₁, ⟨U', l2, c2, s2⟩, hW₁, X', ⟨g', mk, t, L, e1, e2, hq, h1, hL, h2, h3⟩, st⟩ | ⟨q, vm₁, ⟨U', l2, c2, s2⟩, hW₁, X', ⟨g', mk, t, L, E, ce, e1, e2, hq, hce, hcv, hcl, h1, hL, h2, h3⟩, st⟩
  · dsimp only [Pt.U, Pt.locs, Pt.cells, Pt.slots] at X' e1 e2 h1 h2 h3 st
    subst h1; subst h2; subst h3
    exact Or.inl ⟨v, (T.setVm vm₁).calling g' mk As.toArray, t, U', L, hT, X', hL, e1, e2, hq, st⟩
  · dsimp only [Pt.U, Pt.locs, Pt.cells, Pt.slots] at X' e1 e2 h1 h2 h3 st hcl
    subst h1; subst h2; subst h3
    exact Or.inr ⟨q, (T.setVm vm₁).calling g' mk As.toArray, t, U', L, E, ce, hT, X', hL, e1, e2, hq, hce, hcv, vx_cls hW₁ hcl, st⟩
end Runs
section Rows
variable {p : Program} {l : Launch} {e : Env} {R : Room} {s : State} {m : MethodId} {args : Array Value} {below : List Frame} {meth : Method} {c : Code} {H : Heap} {locs : List Loc} {cells slots : Nat} {Q : State → Prop}
variable {mc ms : Nat} {free : Addr → Prop} {A0 A1 : Nat → Prop} {H0 : Heap} {a : Array Value} {pc : Nat} {ls : Array Slot} {st0 rest : List Value}
theorem vx_keep {st₀ t T' : State} {L : List Loc} (h0 : st₀.heap = H) (e1 : T'.heap = t.heap) (hS : va_S A0 H0 H locs) (hA : ∀ q, q < H.size → A1 q → A0 q) (hf : ∀ q, free q → A0 q) (hL : ∀ q ∈ L, free q.base) (hF : va_F A1 st₀ t) :
    H.size ≤ T'.heap.size ∧ (∀ q : Nat, q < H.size → ¬ A1 q → T'.heap[q]? = H[q]?) ∧ va_S A0 H0 T'.heap (locs ++ L) := by
  obtain ⟨hz, hk⟩ := hF
  rw [h0] at hz hk
  exact ⟨by rw [e1]; exact hz, fun q h1 h2 => by rw [e1]; exact hk q h1 h2,
    ⟨Nat.le_trans hS.1 (by rw [e1]; exact hz), fun q h1 h2 => by rw [e1, hk q (Nat.lt_of_lt_of_le h1 hS.1) (fun z => h2 (hA q (Nat.lt_of_lt_of_le h1 hS.1) z))]; exact hS.2.1 q h1 h2, fun q hq => by
      rcases List.mem_append.mp hq with h | h
      · exact hS.2.2 q h
      · exact hf _ (hL q h)⟩⟩
theorem vx_calli {S SX : Type} {post : Int32 → S → Prop} {px : SX → Prop} {B : S → State → Prop} {BX : String → SX → State → Prop} {AX : Nat → Prop} (hr : vx_Run p l e R s m args below meth c H locs cells slots mc ms (F0 m pc ls st0) rest (va_Qi post B A1 a) (vx_X px BX AX) free) (hS : va_S A0 H0 H locs) (hA : ∀ q, q < H.size → A1 q → A0 q) (hf : ∀ q, free q → A0 q) (hAX : ∀ q, q < H.size → AX q → A0 q)
    (kx : ∀ (E : String) (ce : Cell) (q9 : Addr) (u : SX) (t : State) (H1 : Heap) (locs1 : List Loc), t.heap = H1 → s.vm.Alike t.vm → px u → BX E u t → H.size ≤ H1.size → (∀ q : Nat, q < H.size → ¬ AX q → H1[q]? = H[q]?) → va_S A0 H0 H1 locs1 → H1[q9]? = some ce → ce.vm = .none → s.vm.findClass E = some ce.cls → vx_W p l e R s m args below meth c H1 locs1 (cells + mc) (slots + ms) Q (F0 m pc ls rest) q9)
    (kk : ∀ (r : Int32) (u : S) (t : State) (H1 : Heap) (locs1 : List Loc), t.heap = H1 → s.vm.Alike t.vm → post r u → B u t → H.size ≤ H1.size → (∀ q : Nat, q < H.size → ¬ A1 q → H1[q]? = H[q]?) → va_S A0 H0 H1 locs1 → W p l e R s m args below meth c H1 locs1 (cells + mc) (slots + ms) Q (F0 m (pc + 3) ls (.int r :: rest))) : W p l e R s m args below meth c H locs cells slots Q (F0 m pc ls st0) := by
  intro T hT X
  rcases hr T hT X with ⟨v, st₀, t, T', L, h0, X', hL, e1, e2, ⟨⟨r, u, hv, hp, hb⟩, hF⟩, st⟩ | ⟨q, st₀, t, T', L, E, ce, h0, X', hL, e1, e2, ⟨u, hp, hb, hF⟩, hce, hcv, hcl, st⟩
  · cases hv
    obtain ⟨k1, k2, k3⟩ := vx_keep h0 e1 hS hA hf hL hF
    obtain ⟨t2, a1, b1⟩ := kk r u t T'.heap (locs ++ L) e1.symm (by rw [← e2]; exact X'.warmed.alike) hp hb k1 k2 k3 T' rfl X'
    exact ⟨t2, st t2 a1, b1⟩
  · obtain ⟨k1, k2, k3⟩ := vx_keep h0 e1 hS hAX hf hL hF
    obtain ⟨t2, a1, b1⟩ := kx E ce q u t T'.heap (locs ++ L) e1.symm (by rw [← e2]; exact X'.warmed.alike) hp hb k1 k2 k3 (by rw [e1]; exact hce) hcv hcl T' rfl X'
    exact ⟨t2, st.trans a1, b1⟩
theorem vx_calll {S SX : Type} {post : Int64 → S → Prop} {px : SX → Prop} {B : S → State → Prop} {BX : String → SX → State → Prop} {AX : Nat → Prop} (hr : vx_Run p l e R s m args below meth c H locs cells slots mc ms (F0 m pc ls st0) rest (va_Ql post B A1 a) (vx_X px BX AX) free) (hS : va_S A0 H0 H locs) (hA : ∀ q, q < H.size → A1 q → A0 q) (hf : ∀ q, free q → A0 q) (hAX : ∀ q, q < H.size → AX q → A0 q)
    (kx : ∀ (E : String) (ce : Cell) (q9 : Addr) (u : SX) (t : State) (H1 : Heap) (locs1 : List Loc), t.heap = H1 → s.vm.Alike t.vm → px u → BX E u t → H.size ≤ H1.size → (∀ q : Nat, q < H.size → ¬ AX q → H1[q]? = H[q]?) → va_S A0 H0 H1 locs1 → H1[q9]? = some ce → ce.vm = .none → s.vm.findClass E = some ce.cls → vx_W p l e R s m args below meth c H1 locs1 (cells + mc) (slots + ms) Q (F0 m pc ls rest) q9)
    (kk : ∀ (r : Int64) (u : S) (t : State) (H1 : Heap) (locs1 : List Loc), t.heap = H1 → s.vm.Alike t.vm → post r u → B u t → H.size ≤ H1.size → (∀ q : Nat, q < H.size → ¬ A1 q → H1[q]? = H[q]?) → va_S A0 H0 H1 locs1 → W p l e R s m args below meth c H1 locs1 (cells + mc) (slots + ms) Q (F0 m (pc + 3) ls (.long r :: rest))) : W p l e R s m args below meth c H locs cells slots Q (F0 m pc ls st0) := by
  intro T hT X
  rcases hr T hT X with ⟨v, st₀, t, T', L, h0, X', hL, e1, e2, ⟨⟨r, u, hv, hp, hb⟩, hF⟩, st⟩ | ⟨q, st₀, t, T', L, E, ce, h0, X', hL, e1, e2, ⟨u, hp, hb, hF⟩, hce, hcv, hcl, st⟩
  · cases hv
    obtain ⟨k1, k2, k3⟩ := vx_keep h0 e1 hS hA hf hL hF
    obtain ⟨t2, a1, b1⟩ := kk r u t T'.heap (locs ++ L) e1.symm (by rw [← e2]; exact X'.warmed.alike) hp hb k1 k2 k3 T' rfl X'
    exact ⟨t2, st t2 a1, b1⟩
  · obtain ⟨k1, k2, k3⟩ := vx_keep h0 e1 hS hAX hf hL hF
    obtain ⟨t2, a1, b1⟩ := kx E ce q u t T'.heap (locs ++ L) e1.symm (by rw [← e2]; exact X'.warmed.alike) hp hb k1 k2 k3 (by rw [e1]; exact hce) hcv hcl T' rfl X'
    exact ⟨t2, st.trans a1, b1⟩
theorem vx_callf {S SX : Type} {post : UInt32 → S → Prop} {px : SX → Prop} {B : S → State → Prop} {BX : String → SX → State → Prop} {AX : Nat → Prop} (hr : vx_Run p l e R s m args below meth c H locs cells slots mc ms (F0 m pc ls st0) rest (va_Qf post B A1 a) (vx_X px BX AX) free) (hS : va_S A0 H0 H locs) (hA : ∀ q, q < H.size → A1 q → A0 q) (hf : ∀ q, free q → A0 q) (hAX : ∀ q, q < H.size → AX q → A0 q)
    (kx : ∀ (E : String) (ce : Cell) (q9 : Addr) (u : SX) (t : State) (H1 : Heap) (locs1 : List Loc), t.heap = H1 → s.vm.Alike t.vm → px u → BX E u t → H.size ≤ H1.size → (∀ q : Nat, q < H.size → ¬ AX q → H1[q]? = H[q]?) → va_S A0 H0 H1 locs1 → H1[q9]? = some ce → ce.vm = .none → s.vm.findClass E = some ce.cls → vx_W p l e R s m args below meth c H1 locs1 (cells + mc) (slots + ms) Q (F0 m pc ls rest) q9)
    (kk : ∀ (r : UInt32) (u : S) (t : State) (H1 : Heap) (locs1 : List Loc), t.heap = H1 → s.vm.Alike t.vm → post r u → B u t → H.size ≤ H1.size → (∀ q : Nat, q < H.size → ¬ A1 q → H1[q]? = H[q]?) → va_S A0 H0 H1 locs1 → W p l e R s m args below meth c H1 locs1 (cells + mc) (slots + ms) Q (F0 m (pc + 3) ls (.float r :: rest))) : W p l e R s m args below meth c H locs cells slots Q (F0 m pc ls st0) := by
  intro T hT X
  rcases hr T hT X with ⟨v, st₀, t, T', L, h0, X', hL, e1, e2, ⟨⟨r, u, hv, hp, hb⟩, hF⟩, st⟩ | ⟨q, st₀, t, T', L, E, ce, h0, X', hL, e1, e2, ⟨u, hp, hb, hF⟩, hce, hcv, hcl, st⟩
  · cases hv
    obtain ⟨k1, k2, k3⟩ := vx_keep h0 e1 hS hA hf hL hF
    obtain ⟨t2, a1, b1⟩ := kk r u t T'.heap (locs ++ L) e1.symm (by rw [← e2]; exact X'.warmed.alike) hp hb k1 k2 k3 T' rfl X'
    exact ⟨t2, st t2 a1, b1⟩
  · obtain ⟨k1, k2, k3⟩ := vx_keep h0 e1 hS hAX hf hL hF
    obtain ⟨t2, a1, b1⟩ := kx E ce q u t T'.heap (locs ++ L) e1.symm (by rw [← e2]; exact X'.warmed.alike) hp hb k1 k2 k3 (by rw [e1]; exact hce) hcv hcl T' rfl X'
    exact ⟨t2, st.trans a1, b1⟩
theorem vx_calld {S SX : Type} {post : UInt64 → S → Prop} {px : SX → Prop} {B : S → State → Prop} {BX : String → SX → State → Prop} {AX : Nat → Prop} (hr : vx_Run p l e R s m args below meth c H locs cells slots mc ms (F0 m pc ls st0) rest (va_Qd post B A1 a) (vx_X px BX AX) free) (hS : va_S A0 H0 H locs) (hA : ∀ q, q < H.size → A1 q → A0 q) (hf : ∀ q, free q → A0 q) (hAX : ∀ q, q < H.size → AX q → A0 q)
    (kx : ∀ (E : String) (ce : Cell) (q9 : Addr) (u : SX) (t : State) (H1 : Heap) (locs1 : List Loc), t.heap = H1 → s.vm.Alike t.vm → px u → BX E u t → H.size ≤ H1.size → (∀ q : Nat, q < H.size → ¬ AX q → H1[q]? = H[q]?) → va_S A0 H0 H1 locs1 → H1[q9]? = some ce → ce.vm = .none → s.vm.findClass E = some ce.cls → vx_W p l e R s m args below meth c H1 locs1 (cells + mc) (slots + ms) Q (F0 m pc ls rest) q9)
    (kk : ∀ (r : UInt64) (u : S) (t : State) (H1 : Heap) (locs1 : List Loc), t.heap = H1 → s.vm.Alike t.vm → post r u → B u t → H.size ≤ H1.size → (∀ q : Nat, q < H.size → ¬ A1 q → H1[q]? = H[q]?) → va_S A0 H0 H1 locs1 → W p l e R s m args below meth c H1 locs1 (cells + mc) (slots + ms) Q (F0 m (pc + 3) ls (.double r :: rest))) : W p l e R s m args below meth c H locs cells slots Q (F0 m pc ls st0) := by
  intro T hT X
  rcases hr T hT X with ⟨v, st₀, t, T', L, h0, X', hL, e1, e2, ⟨⟨r, u, hv, hp, hb⟩, hF⟩, st⟩ | ⟨q, st₀, t, T', L, E, ce, h0, X', hL, e1, e2, ⟨u, hp, hb, hF⟩, hce, hcv, hcl, st⟩
  · cases hv
    obtain ⟨k1, k2, k3⟩ := vx_keep h0 e1 hS hA hf hL hF
    obtain ⟨t2, a1, b1⟩ := kk r u t T'.heap (locs ++ L) e1.symm (by rw [← e2]; exact X'.warmed.alike) hp hb k1 k2 k3 T' rfl X'
    exact ⟨t2, st t2 a1, b1⟩
  · obtain ⟨k1, k2, k3⟩ := vx_keep h0 e1 hS hAX hf hL hF
    obtain ⟨t2, a1, b1⟩ := kx E ce q u t T'.heap (locs ++ L) e1.symm (by rw [← e2]; exact X'.warmed.alike) hp hb k1 k2 k3 (by rw [e1]; exact hce) hcv hcl T' rfl X'
    exact ⟨t2, st.trans a1, b1⟩
theorem vx_callv {S SX : Type} {post : S → Prop} {px : SX → Prop} {B : S → State → Prop} {BX : String → SX → State → Prop} {AX : Nat → Prop} (hr : vx_Run p l e R s m args below meth c H locs cells slots mc ms (F0 m pc ls st0) rest (va_Qv post B A1 a) (vx_X px BX AX) free) (hS : va_S A0 H0 H locs) (hA : ∀ q, q < H.size → A1 q → A0 q) (hf : ∀ q, free q → A0 q) (hAX : ∀ q, q < H.size → AX q → A0 q)
    (kx : ∀ (E : String) (ce : Cell) (q9 : Addr) (u : SX) (t : State) (H1 : Heap) (locs1 : List Loc), t.heap = H1 → s.vm.Alike t.vm → px u → BX E u t → H.size ≤ H1.size → (∀ q : Nat, q < H.size → ¬ AX q → H1[q]? = H[q]?) → va_S A0 H0 H1 locs1 → H1[q9]? = some ce → ce.vm = .none → s.vm.findClass E = some ce.cls → vx_W p l e R s m args below meth c H1 locs1 (cells + mc) (slots + ms) Q (F0 m pc ls rest) q9)
    (kk : ∀ (u : S) (t : State) (H1 : Heap) (locs1 : List Loc), t.heap = H1 → s.vm.Alike t.vm → post u → B u t → H.size ≤ H1.size → (∀ q : Nat, q < H.size → ¬ A1 q → H1[q]? = H[q]?) → va_S A0 H0 H1 locs1 → W p l e R s m args below meth c H1 locs1 (cells + mc) (slots + ms) Q (F0 m (pc + 3) ls (rest))) : W p l e R s m args below meth c H locs cells slots Q (F0 m pc ls st0) := by
  intro T hT X
  rcases hr T hT X with ⟨v, st₀, t, T', L, h0, X', hL, e1, e2, ⟨⟨u, hv, hp, hb⟩, hF⟩, st⟩ | ⟨q, st₀, t, T', L, E, ce, h0, X', hL, e1, e2, ⟨u, hp, hb, hF⟩, hce, hcv, hcl, st⟩
  · cases hv
    obtain ⟨k1, k2, k3⟩ := vx_keep h0 e1 hS hA hf hL hF
    obtain ⟨t2, a1, b1⟩ := kk u t T'.heap (locs ++ L) e1.symm (by rw [← e2]; exact X'.warmed.alike) hp hb k1 k2 k3 T' rfl X'
    exact ⟨t2, st t2 a1, b1⟩
  · obtain ⟨k1, k2, k3⟩ := vx_keep h0 e1 hS hAX hf hL hF
    obtain ⟨t2, a1, b1⟩ := kx E ce q u t T'.heap (locs ++ L) e1.symm (by rw [← e2]; exact X'.warmed.alike) hp hb k1 k2 k3 (by rw [e1]; exact hce) hcv hcl T' rfl X'
    exact ⟨t2, st.trans a1, b1⟩
/-- caught by the row x of this method's table; the rows ahead don't take it -/
theorem vx_catch {own name : String} {E : String} {ce : Cell} {q : Addr} (hown : s.vm.findClass own = some m.cls) (pre : List ExceptionTableEntry) (x : ExceptionTableEntry) (suf : List ExceptionTableEntry) (hsplit : c.exceptionTable.toList = pre ++ x :: suf)
    (hpass : ∀ z ∈ pre, covers z pc = false ∨ (z.catchType ≠ 0 ∧ ∃ nm : String, (Cond.classLink own z.catchType nm).before args s = true ∧ va_Nc E nm s)) (hx : covers x pc = true) (h0 : x.catchType ≠ 0)
    (hlink : (Cond.classLink own x.catchType name).before args s = true) (hcast : (Cond.castable E name).before args s = true) (hcell : H[q]? = some ce) (hv : ce.vm = .none) (hcl : s.vm.findClass E = some ce.cls)
    (kk : W p l e R s m args below meth c H locs cells slots Q (F0 m x.handlerPc ls [.ref q])) : vx_W p l e R s m args below meth c H locs cells slots Q (F0 m pc ls rest) q := by
  intro T hT X
  have hpl : e.platform.magicAccessors = ({} : Platform).magicAccessors := by rw [X.admits.platform]
  obtain ⟨c3, c4, hc3, hc4, hasg⟩ := Cond.castable_spec hcast
  cases Option.some.inj (hc3.symm.trans hcl)
  obtain ⟨c5, hc5, hcl5⟩ := Cond.classLink_spec hown hlink e.platform hpl
  cases Option.some.inj (hc4.symm.trans hc5)
  obtain ⟨vm', X', st⟩ := X.thenCaughtThrough q (g := F0 m pc ls rest) rfl (Steps.refl _) (by rw [hT]; exact hcell) (by rw [hv]; rfl) (by obtain ⟨k9, h9, -⟩ := Vm.findClass_spec hcl; exact ⟨k9, h9⟩) pre x suf hsplit
    (fun z hz => by
      rcases hpass z hz with h | ⟨hz0, nm, hl1, hn1⟩
      · exact Or.inl h
      · obtain ⟨c6, hc6, hcl6⟩ := Cond.classLink_spec hown hl1 e.platform hpl
        obtain ⟨a8, b8, h1, h2, h3⟩ := hn1
        cases Option.some.inj (h1.symm.trans hcl)
        cases Option.some.inj (h2.symm.trans hc6)
        exact Or.inr ⟨hz0, _, hcl6, h3⟩) hx (Or.inr ⟨h0, c4, hcl5, hasg⟩)
  obtain ⟨t, a1, b1⟩ := kk (T.setVm vm') hT X'
  exact ⟨t, st.trans a1, b1⟩
end Rows
section Ends
variable {p : Program} {l : Launch} {e : Env} {R : Room} {s : State} {m : MethodId} {args : Array Value} {below : List Frame} {meth : Method} {c : Code} {H : Heap} {locs : List Loc} {cells slots : Nat} {Q : State → Prop}
variable {mc ms : Nat} {free : Addr → Prop} {A0 A1 : Nat → Prop} {H0 : Heap} {a : Array Value} {ls : Array Slot} {st0 rest : List Value}
variable {Qc : Array Value → State → Outcome → State → Prop} {XC : String → State → State → Prop}
/-- what a body that may throw owes at its end -/
def vx_MQ (below : List Frame) (Qc : Array Value → State → Outcome → State → Prop) (XC : String → State → State → Prop) (a : Array Value) (s : State) (mc ms : Nat) (free : Addr → Prop) : State → Prop := fun t =>
  ∃ o, t.status = .running ∧ Ended t below o ∧ vx_Q Qc XC mc ms free a s o t
theorem vx_ret {g : JFrame} {mc ms : Nat} (k : W p l e R s m args below meth c H locs cells slots (MQ below Qc args s mc ms free) g) : W p l e R s m args below meth c H locs cells slots (vx_MQ below Qc XC args s mc ms free) g := by
  intro T hT X
  obtain ⟨t, a1, o, b1, b2, b3, b4⟩ := k T hT X
  exact ⟨t, a1, o, b1, b2, Or.inl ⟨b3, b4⟩⟩
/-- not caught here: it goes on to the caller -/
theorem vx_widen {g : JFrame} {q : Addr} {k n : Nat} (h1 : cells ≤ k) (h2 : slots ≤ n) (kk : vx_W p l e R s m args below meth c H locs k n Q g q) : vx_W p l e R s m args below meth c H locs cells slots Q g q := fun T hT X => kk T hT (stand_widen X h1 h2)
theorem vx_out {pc : Nat} {E : String} {ce : Cell} {q : Addr} {mc ms : Nat} (hout : ∀ x ∈ c.exceptionTable.toList, covers x pc = false) (hlocks : meth.locks = false) (hcell : H[q]? = some ce) (hv : ce.vm = .none) (hcl : s.vm.findClass E = some ce.cls)
    (hx : ∀ t : State, t.heap = H → s.vm.Alike t.vm → XC E s t) (hf : ∀ z ∈ locs, free z.base) (hc : cells ≤ mc) (hs : slots ≤ ms) :
    vx_W p l e R s m args below meth c H locs cells slots (vx_MQ below Qc XC args s mc ms free) (F0 m pc ls rest) q := by
  intro T hT X
  obtain ⟨st1, hrun, hend, hW, hsm⟩ := X.leaveThrown q (g := F0 m pc ls rest) rfl rfl rfl hout hlocks
  have hcell9 : (T.setFrames (.throwing q :: below)).heap[q]? = some ce := by
    show T.heap[q]? = some ce
    rw [hT]; exact hcell
  exact ⟨_, st1, .threw q, hrun, hend, Or.inr ⟨q, rfl, E, ce, locs, hx _ hT hW.alike, hcell9, hv, hcl, hW, hsm.mono hc hs, hf⟩⟩
theorem vx_frame {U : State} {k n : Nat} (h : s.sameButNew ({ U with vm := s.vm } : State) locs k n) : s.heap.size ≤ U.heap.size ∧ ∀ q : Nat, q < s.heap.size → (∀ z ∈ locs, z.base ≠ q) → U.heap[q]? = s.heap[q]? := by
  obtain ⟨-, h2, -, -, -, h6⟩ := h
  refine ⟨h2, fun q hq hz => ?_⟩
  obtain ⟨c9, e1, e2, e3, e4⟩ := h6 q _ (Array.getElem?_eq_getElem hq)
  have hs : c9.slots = (s.heap[q]).slots := Array.ext_getElem? fun i => e4 i fun hm => hz _ hm rfl
  have h9 : c9 = s.heap[q] := by
    rw [hs] at e2
    exact e2
  have e5 : U.heap[q]? = some c9 := e1
  rw [e5, h9, Array.getElem?_eq_getElem hq]
/-- the words of a throw but the four that speak of the heap -/
def vx_no (w : Cond) : Bool := decide (w ≠ .isRef (.static Bundle.tN "UNASSIGNED_STACK" Bundle.steD)) && decide (w ≠ .isRef (.static Bundle.tN "SUPPRESSED_SENTINEL" Bundle.listD)) && decide (w ≠ .laysStatic Bundle.tN "UNASSIGNED_STACK" Bundle.steD) && decide (w ≠ .laysStatic Bundle.tN "SUPPRESSED_SENTINEL" Bundle.listD)
def vx_at0 (own : String) (ic : Nat) (X : String) (names : List String) : List Cond := (Bundle.ownAtoms0 own ic X names).filter vx_no
def vx_atS (own : String) (ic : Nat) (X : String) (names : List String) : List Cond := (Bundle.ownAtoms own ic X names).filter vx_no
/-- a word that the tables alone decide, or a good one -/
def vx_ot (w : Cond) : Bool := w.onTables || goodWord w
theorem vx_ot_at {args a' : Array Value} {s U : State} {w : Cond} (hW : s.WarmedH U.vm) (hvm : s.vm = U.vm) (hg : vx_ot w = true) (h : w.before args s = true) : w.before a' U = true := by
  simp only [vx_ot, Bool.or_eq_true] at hg
  rcases hg with hg | hg
  · exact va_tabs hg hvm h
  · exact word_at hW (good_of_word hg) h
/-- a list's words: the good ones out of the method's own list, the others by premises of their own -/
theorem vx_hat {args : Array Value} {s : State} {L B : List Cond} (h1 : ∀ w ∈ L.filter goodWord, w.before args s = true) (h2 : ∀ w ∈ L.filter (fun w => !goodWord w), w ∈ B) (h3 : ∀ w ∈ B, w.before args s = true) : ∀ w ∈ L, w.before args s = true := by
  intro w hw
  by_cases g : goodWord w = true
  · exact h1 w (List.mem_filter.mpr ⟨hw, g⟩)
  · refine h3 w (h2 w (List.mem_filter.mpr ⟨hw, ?_⟩))
    show (!goodWord w) = true
    cases hgw : goodWord w
    · rfl
    · exact absurd hgw g
theorem vx_c {args : Array Value} {s : State} {w : Cond} {B : List Cond} (h : w.before args s = true) (t : ∀ w ∈ B, w.before args s = true) : ∀ w' ∈ w :: B, w'.before args s = true := fun w' h' => (List.mem_cons.mp h').elim (fun e => by rw [e]; exact h) (t w')
theorem vx_n {args : Array Value} {s : State} : ∀ w ∈ ([] : List Cond), w.before args s = true := fun _ h => nomatch h
theorem vx_own {args : Array Value} {s : State} {L : List Cond} (h1 : ∀ w ∈ L.filter vx_no, w.before args s = true)
    (hU : (Cond.isRef (.static Bundle.tN "UNASSIGNED_STACK" Bundle.steD)).before args s = true) (hN : (Cond.isRef (.static Bundle.tN "SUPPRESSED_SENTINEL" Bundle.listD)).before args s = true)
    (lU : (Cond.laysStatic Bundle.tN "UNASSIGNED_STACK" Bundle.steD).before args s = true) (lN : (Cond.laysStatic Bundle.tN "SUPPRESSED_SENTINEL" Bundle.listD).before args s = true) : ∀ w ∈ L, w.before args s = true := by
  intro w hw
  by_cases e1 : w = .isRef (.static Bundle.tN "UNASSIGNED_STACK" Bundle.steD)
  · rw [e1]; exact hU
  · by_cases e2 : w = .isRef (.static Bundle.tN "SUPPRESSED_SENTINEL" Bundle.listD)
    · rw [e2]; exact hN
    · by_cases e3 : w = .laysStatic Bundle.tN "UNASSIGNED_STACK" Bundle.steD
      · rw [e3]; exact lU
      · by_cases e4 : w = .laysStatic Bundle.tN "SUPPRESSED_SENTINEL" Bundle.listD
        · rw [e4]; exact lN
        · exact h1 w (List.mem_filter.mpr ⟨hw, by unfold vx_no; rw [decide_eq_true e1, decide_eq_true e2, decide_eq_true e3, decide_eq_true e4]; rfl⟩)
/-- where a static field lies, its class's statics cell in H -/
def vx_L (C n d : String) (A : Nat → Prop) (U : State) (H : Heap) : Prop := ∃ (c : ClassId) (k : Class) (i : Nat) (f : Field) (a : Nat) (cell : Cell), U.vm.findClass C = some c ∧ U.fieldFound? C n d = some (c, k, i, f) ∧ f.isStatic = true ∧ k.statics = some a ∧ H[a]? = some cell ∧ cell.vm.isStatics = true ∧ cell.cls = c ∧ f.slot < cell.slots.size ∧ k.staticTypes[f.slot]? = some f.type ∧ ¬ A a
theorem vx_L.moved {C n d : String} {A : Nat → Prop} {u U : State} {H : Heap} (hvm : u.vm.Alike U.vm) (h : vx_L C n d A u H) : vx_L C n d A U H := by
  obtain ⟨c, k, i, f, a, cell, h1, h2, h3, h4, h5, h6, h7, h8, h9, h10⟩ := h
  obtain ⟨k', hi', he⟩ := State.fieldFound?_setVm hvm h2
  exact ⟨c, k', i, f, a, cell, by rw [hvm.findClass]; exact h1, hi', h3, by rw [he]; exact h4, h5, h6, h7, h8, by rw [he]; exact h9, h10⟩
theorem vx_L.kept {C n d : String} {A : Nat → Prop} {U : State} {H H1 : Heap} (h : vx_L C n d A U H) (hq : ∀ a : Nat, a < H.size → ¬ A a → H1[a]? = H[a]?) : vx_L C n d A U H1 := by
  obtain ⟨c, k, i, f, a, cell, h1, h2, h3, h4, h5, h6, h7, h8, h9, h10⟩ := h
  exact ⟨c, k, i, f, a, cell, h1, h2, h3, h4, by rw [hq a (Array.getElem?_eq_some_iff.mp h5).1 h10]; exact h5, h6, h7, h8, h9, h10⟩
theorem vx_L.narrow {C n d : String} {A B : Nat → Prop} {U : State} {H : Heap} (h : vx_L C n d A U H) (hAB : ∀ q, B q → A q) : vx_L C n d B U H := by
  obtain ⟨c, k, i, f, a, cell, h1, h2, h3, h4, h5, h6, h7, h8, h9, h10⟩ := h
  exact ⟨c, k, i, f, a, cell, h1, h2, h3, h4, h5, h6, h7, h8, h9, fun z => h10 (hAB _ z)⟩
theorem vx_L.word {C n d : String} {A : Nat → Prop} {s : State} {args : Array Value} (h : vx_L C n d A s s.heap) : (Cond.laysStatic C n d).before args s = true := by
  obtain ⟨c, k, i, f, a, cell, h1, h2, h3, h4, h5, h6, h7, h8, h9, -⟩ := h
  show (Cond.laysStatic C n d).holds args s none s [] = true
  exact Cond.laysStatic_of h1 h2 h3 h4 h5 h6 h7 h8 h9
/-- .. and what it holds: null or some reference -/
def vx_Zq (C n d : String) (A : Nat → Prop) (U : State) (H : Heap) : Prop := va_Zq C n d A U H ∧ vx_L C n d A U H
theorem vx_Zq.moved {C n d : String} {A : Nat → Prop} {u U : State} {H : Heap} (hvm : u.vm.Alike U.vm) (h : vx_Zq C n d A u H) : vx_Zq C n d A U H := ⟨va_Zq.moved hvm h.1, vx_L.moved hvm h.2⟩
theorem vx_Zq.kept {C n d : String} {A : Nat → Prop} {U : State} {H H1 : Heap} (h : vx_Zq C n d A U H) (hq : ∀ a : Nat, a < H.size → ¬ A a → H1[a]? = H[a]?) : vx_Zq C n d A U H1 := ⟨va_Zq.kept h.1 hq, vx_L.kept h.2 hq⟩
theorem vx_Zq.narrow {C n d : String} {A B : Nat → Prop} {U : State} {H : Heap} (h : vx_Zq C n d A U H) (hAB : ∀ q, B q → A q) : vx_Zq C n d B U H := ⟨va_Zq.narrow h.1 hAB, vx_L.narrow h.2 hAB⟩
theorem vx_Zqof {args : Array Value} {s : State} {C n d : String} {A : Nat → Prop} (hl : (Cond.laysStatic C n d).before args s = true) (hini : (Cond.initialized C).before args s = true) (h : (Cond.isRef (.static C n d)).before args s = true) (hA : ∀ a : Nat, a < s.heap.size → ¬ A a) : vx_Zq C n d A s s.heap := by
  refine ⟨va_Zqof hl hini h hA, ?_⟩
  obtain ⟨c, k, i, f, a, cell, h1, h2, h3, h4, h5, h6, h7, h8, h9⟩ := Cond.laysStatic_spec hl
  exact ⟨c, k, i, f, a, cell, h1, h2, h3, h4, h5, h6, h7, h8, h9, hA a (Array.getElem?_eq_some_iff.mp h5).1⟩
theorem vx_isRef {C n d : String} {v : Value} {A : Nat → Prop} {s : State} {args : Array Value} (h : va_Z C n d v A s s.heap) (hv : v.isRef = true) : (Cond.isRef (.static C n d)).before args s = true := by
  obtain ⟨cf, kf, fi, f, a, cell, h1, h2, h3, h4, h5, h6, h7, -⟩ := h
  have he : (Term.static C n d).eval args s none [] s = some v := by
    simp [Term.eval, State.fieldNamed?, h1, h2, h4, h5, h6, h7]
  simp only [Cond.before, Cond.holds, Cond.value, he]
  cases v <;> simp_all [Value.isRef]
theorem vx_isRefq {C n d : String} {A : Nat → Prop} {s : State} {args : Array Value} (h : va_Zq C n d A s s.heap) : (Cond.isRef (.static C n d)).before args s = true := by
  rcases h with h | ⟨t, h⟩
  · exact vx_isRef h rfl
  · exact vx_isRef h rfl
/-- the same frame, seen from here: as if the method were called anew in this heap -/
theorem vx_rebase {T : State} (X : Stand p l e R s m args below meth c T locs cells slots) {R' : Room} (hf : R'.frames ≤ R.frames) (hl : R'.locals ≤ R.locals) (hc : cells + R'.cells ≤ R.cells) (hs : slots + R'.slots ≤ R.slots) :
    Stand p l e R' ((T.setVm s.vm).setFrames (.invoking m args :: below)) m args below meth c T [] 0 0 := by
  have htop : (T.setVm s.vm).topJava?.isSome := X.here.top
  have hF : ((T.setVm s.vm).setFrames (.invoking m args :: below)).frames = .invoking m args :: below := State.frames_setFrames _ (State.cur_lt_of_top htop)
  obtain ⟨g₀, hg0⟩ := Option.isSome_iff_exists.mp htop
  obtain ⟨r, hr⟩ := State.topJava?_eq_some.mp hg0
  have hl9 : e.platform.stackLimits (T.setVm s.vm).me = e.platform.stackLimits s.me := X.limits
  have hb9 : (T.setVm s.vm).me.stackBytes = s.me.stackBytes := X.bytes
  refine ⟨X.admits, X.cas, X.clock, hF, ?_, X.hears, X.method, X.code, X.here, X.tail, X.warmed, ?_, ?_, ?_⟩
  · have h := X.room
    have hU : ((T.setVm s.vm).setFrames (.invoking m args :: below)).localsInUse = s.localsInUse := by
      rw [State.localsInUse_invoking hF (meth := meth) (c := c) X.method X.code, State.localsInUse_invoking X.frames X.method X.code]
    simp only [State.hasRoom, Bool.and_eq_true, decide_eq_true_eq] at h ⊢
    obtain ⟨⟨⟨⟨h1, h2, h3, h4, h5, h6⟩, h7⟩, h8⟩, h9⟩ := h
    rw [X.frames, List.length_cons] at h2 h3
    have q1 := X.heapSize
    have q2 := X.used
    simp only [hF, hU, List.length_cons, State.stackLimits_setFrames, State.stackBytes_setFrames, hl9, hb9]
    refine ⟨⟨⟨⟨by omega, by omega, by omega, by omega, by omega, h6⟩, ?_⟩, ?_⟩, X.book⟩
    · show T.heap.size + R'.cells ≤ e.platform.maxCells
      omega
    · show T.slotsUsed + R'.slots ≤ e.platform.maxSlots
      omega
  · rw [State.stackLimits_setFrames]; rfl
  · rw [State.stackBytes_setFrames]; rfl
  · refine ⟨?_, Nat.le_refl _, Nat.le_refl _, ?_, ?_, fun a c9 h9 => ⟨c9, h9, rfl, rfl, fun _ _ => rfl⟩⟩
    · obtain ⟨t, ht, -⟩ := State.frames_cons hr
      show T.setVm s.vm = { ((T.setVm s.vm).setFrames (.invoking m args :: below)).setFrames (T.setVm s.vm).frames with heap := T.heap, slotsUsed := T.slotsUsed }
      rw [State.setFrames_setFrames, State.setFrames_self ht]
      rfl
    · show T.slotsUsed = T.slotsUsed + ((T.heap.toList.drop T.heap.size).map (·.slots.size)).sum
      rw [List.drop_eq_nil_of_le (Nat.le_of_eq Array.length_toList)]
      rfl
    · show ((T.heap.toList.drop T.heap.size).map (·.slots.size)).sum ≤ 0
      rw [List.drop_eq_nil_of_le (Nat.le_of_eq Array.length_toList)]
      exact Nat.le_refl _
/-- 'throw new E()': new; dup; invokespecial; athrow -/
theorem vx_throw0 {cc : ByteArray} {pc : Nat} (hexec : p.tables.exec = Jvm.exec) (hb : c.code = cc) (hl : l.stackTraces = false) {own cls : String} {names : List String} {ik ic mc ms : Nat} {A : Nat → Prop}
    (hown : s.vm.findClass own = some m.cls) (hcls : Bundle.fit cls = true) (hnames : ∀ n ∈ names, Bundle.fit n = true)
    (hk : (Cond.classLink own ik cls).before args s = true) (hini : (Cond.initialized cls).before args s = true) (hat : ∀ w ∈ vx_at0 own ic cls names, w.before args s = true)
    (hgood : ∀ w ∈ Cond.classLink own ik cls :: Cond.initialized cls :: vx_at0 own ic cls names, vx_ot w = true)
    (hU : vx_Zq Bundle.tN "UNASSIGNED_STACK" Bundle.steD A s s.heap) (hN : vx_Zq Bundle.tN "SUPPRESSED_SENTINEL" Bundle.listD A s s.heap) (hS : va_S A s.heap H locs) (hsize : ls.size = c.maxLocals)
    (d0 : decode cc pc = .ok (.new ik, 3)) (d3 : decode cc (pc + 3) = .ok (.dup, 1)) (d4 : decode cc (pc + 4) = .ok (.invokespecial ic, 3)) (d7 : decode cc (pc + 7) = .ok (.athrow, 1))
    (hout : ∀ x ∈ c.exceptionTable.toList, covers x (pc + 7) = false)
    (hRframes : names.length + 3 < R.frames) (hRlocals : (rest.map fun v => v.category).sum + (13 * (names.length + 1) + 42) ≤ R.locals) (hRcells : cells + 1 ≤ R.cells) (hRslots : slots + 6 ≤ R.slots) (hlocks : meth.locks = false)
    (hx : ∀ t : State, s.vm.Alike t.vm → H.size ≤ t.heap.size → (∀ q : Nat, q < H.size → t.heap[q]? = H[q]?) → XC cls s t)
    (hf : ∀ z ∈ locs, free z.base) (hc : cells + 1 ≤ mc) (hs : slots + 6 ≤ ms) :
    W p l e R s m args below meth c H locs cells slots (vx_MQ below Qc XC args s mc ms free) (F0 m pc ls rest) := by
  intro T hT X
  have htr : e.platform.stackTraces = false := (show e.platform.stackTraces = l.stackTraces by rw [X.admits.platform]).trans hl
  have Y := vx_rebase X (R' := { frames := R.frames, locals := R.locals, cells := 1, slots := 6 }) (Nat.le_refl _) (Nat.le_refl _) hRcells hRslots
  obtain ⟨s', hA⟩ : ∃ z, z = (T.setVm s.vm).setFrames (.invoking m args :: below) := ⟨_, rfl⟩
  rw [← hA] at Y
  have hvm : s'.vm = s.vm := by rw [hA]; rfl
  have hhp : s'.heap = H := by rw [hA]; exact hT
  have hW0 : s.WarmedH s'.vm := by rw [hvm]; exact State.WarmedH.refl s
  have hat' : ∀ w ∈ vx_at0 own ic cls names, w.before args s' = true := fun w hw => vx_ot_at hW0 hvm.symm (hgood w (List.mem_cons_of_mem _ (List.mem_cons_of_mem _ hw))) (hat w hw)
  have hk' : (Cond.classLink own ik cls).before args s' = true := vx_ot_at hW0 hvm.symm (hgood _ List.mem_cons_self) hk
  have hini' : (Cond.initialized cls).before args s' = true := vx_ot_at hW0 hvm.symm (hgood _ (List.mem_cons_of_mem _ List.mem_cons_self)) hini
  have hU' : vx_Zq Bundle.tN "UNASSIGNED_STACK" Bundle.steD A s' s'.heap := by rw [hhp]; exact vx_Zq.moved hW0.alike (hU.kept hS.2.1)
  have hN' : vx_Zq Bundle.tN "SUPPRESSED_SENTINEL" Bundle.listD A s' s'.heap := by rw [hhp]; exact vx_Zq.moved hW0.alike (hN.kept hS.2.1)
  have h : ∀ w ∈ Bundle.ownAtoms0 own ic cls names, w.before args s' = true := vx_own hat' (vx_isRefq hU'.1) (vx_isRefq hN'.1) hU'.2.word hN'.2.word
  have hown' : s'.vm.findClass own = some m.cls := by rw [hvm]; exact hown
  have hins : (Cond.instantiable cls 6).before args s' = true := h _ (by simp [Bundle.ownAtoms0])
  obtain ⟨vm₁, cX, kX, hfX, hkX, -, -, X₁, st1⟩ := Y.newCold hexec (own := own) (C := cls) (index := ik) (n := 6) hown' hk' hins hini'
    (g := F0 m pc ls rest) rfl (by rw [hb]; exact d0) (Nat.le_refl _) (Nat.le_refl _)
  generalize hT1 : (T.setVm vm₁).pushCell { cls := cX, slots := kX.instanceTypes.map defaultValue, vm := .none } = T1 at X₁ st1
  have hcat : (Value.ref T.heap.size).category = 1 := rfl
  have hcellA : T1.heap[T.heap.size]? = some (freshCell cX kX) := by rw [← hT1]; exact State.heap_pushCell_size _ _
  have d3' : decode c.code (pc + 3) = .ok (.dup, 1) := by rw [hb]; exact d3
  obtain ⟨U, hsteps, hrun, hend, hW, hsame, ce, hce, hO⟩ := X₁.ctorThrow0 hexec htr (own := own) (cls := cls) (names := names) (ic := ic) hown' hcls hnames h (fun x hx => nomatch hx) hfX hkX hcellA (by rw [hhp, hT]; exact Nat.le_refl _)
    (g := { method := m, pc := pc + 4, locals := ls, stack := .ref T.heap.size :: .ref T.heap.size :: rest, locked := none }) rfl hsize rfl rfl (rest := rest) rfl
    (by rw [hb]; exact d4) (by rw [hb]; exact d7) hout hRframes (by simp only [List.map_cons, List.sum_cons, hcat]; omega) hlocks
  obtain ⟨f1, f2⟩ := vx_frame hsame
  rw [hhp] at f1 f2
  have hWs : s.WarmedH U.vm := State.WarmedH.trans hW0 hW
  have hcl : s.vm.findClass cls = some ce.cls := by
    have h9 := hO.cls
    rw [hvm] at h9
    exact h9
  have hall : s.sameButNew ({ U with vm := s.vm } : State) locs mc ms := by
    subst hA
    obtain ⟨e1, e2⟩ := hsame
    rw [State.setFrames_setFrames] at e1
    have h2 : (T.setVm s.vm).sameButNew ({ U with vm := s.vm } : State) [] (0 + 1) (0 + 6) := ⟨e1, e2⟩
    have h3 := X.same.trans h2
    rw [List.append_nil] at h3
    exact h3.mono hc hs
  refine ⟨U, ?_, .threw T.heap.size, hrun, hend, Or.inr ⟨T.heap.size, rfl, cls, ce, locs, hx U hWs.alike f1 (fun q hq => f2 q hq (fun z hz => nomatch hz)), hce, hO.vm, hcl, hWs, hall, hf⟩⟩
  refine st1 _ ?_
  show Steps p.tables e below (T1.setTop { method := m, pc := pc + 3, locals := ls, stack := .ref T.heap.size :: rest, locked := none }) _
  jvm_step X₁.here [X₁.here.top, hexec, d3', Value.category]
  exact hsteps
/-- 'throw new E("text")': new; dup; ldc; invokespecial; athrow -/
theorem vx_throwS {cc : ByteArray} {pc : Nat} (hexec : p.tables.exec = Jvm.exec) (hb : c.code = cc) (hl : l.stackTraces = false) {own cls text : String} {names : List String} {ik is ic mc ms sa : Nat} {A : Nat → Prop}
    (hown : s.vm.findClass own = some m.cls) (hcls : Bundle.fit cls = true) (hnames : ∀ n ∈ names, Bundle.fit n = true)
    (hk : (Cond.classLink own ik cls).before args s = true) (hini : (Cond.initialized cls).before args s = true) (hstr : vk_R own is text sa s) (hat : ∀ w ∈ vx_atS own ic cls names, w.before args s = true)
    (hgood : ∀ w ∈ Cond.classLink own ik cls :: Cond.initialized cls :: vx_atS own ic cls names, vx_ot w = true)
    (hU : vx_Zq Bundle.tN "UNASSIGNED_STACK" Bundle.steD A s s.heap) (hN : vx_Zq Bundle.tN "SUPPRESSED_SENTINEL" Bundle.listD A s s.heap) (hS : va_S A s.heap H locs) (hsize : ls.size = c.maxLocals)
    (d0 : decode cc pc = .ok (.new ik, 3)) (d3 : decode cc (pc + 3) = .ok (.dup, 1)) (d4 : decode cc (pc + 4) = .ok (.ldc is, 2)) (d6 : decode cc (pc + 6) = .ok (.invokespecial ic, 3)) (d9 : decode cc (pc + 9) = .ok (.athrow, 1))
    (hout : ∀ x ∈ c.exceptionTable.toList, covers x (pc + 9) = false)
    (hRframes : names.length + 3 < R.frames) (hRlocals : (rest.map fun v => v.category).sum + (13 * (names.length + 1) + 43) ≤ R.locals) (hRcells : cells + 1 ≤ R.cells) (hRslots : slots + 6 ≤ R.slots) (hlocks : meth.locks = false)
    (hx : ∀ t : State, s.vm.Alike t.vm → H.size ≤ t.heap.size → (∀ q : Nat, q < H.size → t.heap[q]? = H[q]?) → XC cls s t)
    (hf : ∀ z ∈ locs, free z.base) (hc : cells + 1 ≤ mc) (hs : slots + 6 ≤ ms) :
    W p l e R s m args below meth c H locs cells slots (vx_MQ below Qc XC args s mc ms free) (F0 m pc ls rest) := by
  intro T hT X
  have htr : e.platform.stackTraces = false := (show e.platform.stackTraces = l.stackTraces by rw [X.admits.platform]).trans hl
  have Y := vx_rebase X (R' := { frames := R.frames, locals := R.locals, cells := 1, slots := 6 }) (Nat.le_refl _) (Nat.le_refl _) hRcells hRslots
  obtain ⟨s', hA⟩ : ∃ z, z = (T.setVm s.vm).setFrames (.invoking m args :: below) := ⟨_, rfl⟩
  rw [← hA] at Y
  have hvm : s'.vm = s.vm := by rw [hA]; rfl
  have hhp : s'.heap = H := by rw [hA]; exact hT
  have hW0 : s.WarmedH s'.vm := by rw [hvm]; exact State.WarmedH.refl s
  have hat' : ∀ w ∈ vx_atS own ic cls names, w.before args s' = true := fun w hw => vx_ot_at hW0 hvm.symm (hgood w (List.mem_cons_of_mem _ (List.mem_cons_of_mem _ hw))) (hat w hw)
  have hk' : (Cond.classLink own ik cls).before args s' = true := vx_ot_at hW0 hvm.symm (hgood _ List.mem_cons_self) hk
  have hini' : (Cond.initialized cls).before args s' = true := vx_ot_at hW0 hvm.symm (hgood _ (List.mem_cons_of_mem _ List.mem_cons_self)) hini
  have hU' : vx_Zq Bundle.tN "UNASSIGNED_STACK" Bundle.steD A s' s'.heap := by rw [hhp]; exact vx_Zq.moved hW0.alike (hU.kept hS.2.1)
  have hN' : vx_Zq Bundle.tN "SUPPRESSED_SENTINEL" Bundle.listD A s' s'.heap := by rw [hhp]; exact vx_Zq.moved hW0.alike (hN.kept hS.2.1)
  have h : ∀ w ∈ Bundle.ownAtoms own ic cls names, w.before args s' = true := vx_own hat' (vx_isRefq hU'.1) (vx_isRefq hN'.1) hU'.2.word hN'.2.word
  have hown' : s'.vm.findClass own = some m.cls := by rw [hvm]; exact hown
  have hins : (Cond.instantiable cls 6).before args s' = true := h _ (by simp [Bundle.ownAtoms])
  obtain ⟨vm₁, cX, kX, hfX, hkX, -, -, X₁, st1⟩ := Y.newCold hexec (own := own) (C := cls) (index := ik) (n := 6) hown' hk' hins hini'
    (g := F0 m pc ls rest) rfl (by rw [hb]; exact d0) (Nat.le_refl _) (Nat.le_refl _)
  generalize hT1 : (T.setVm vm₁).pushCell { cls := cX, slots := kX.instanceTypes.map defaultValue, vm := .none } = T1 at X₁ st1
  have hcat : (Value.ref T.heap.size).category = 1 := rfl
  have hcellA : T1.heap[T.heap.size]? = some (freshCell cX kX) := by rw [← hT1]; exact State.heap_pushCell_size _ _
  have d3' : decode c.code (pc + 3) = .ok (.dup, 1) := by rw [hb]; exact d3
  have d4' : decode c.code (pc + 4) = .ok (.ldc is, 2) := by rw [hb]; exact d4
  have hstr' : vk_R own is text sa s' := vk_R.warm hW0 hstr
  obtain ⟨U, hsteps, hrun, hend, hW, hsame, ce, hce, hO⟩ := X₁.ctorThrowS hexec htr (own := own) (cls := cls) (names := names) (ic := ic) hown' hcls hnames h (fun x hx => nomatch hx) hfX hkX hcellA (by rw [hhp, hT]; exact Nat.le_refl _) (msg := .ref sa) rfl
    (g := { method := m, pc := pc + 6, locals := ls, stack := .ref sa :: .ref T.heap.size :: .ref T.heap.size :: rest, locked := none }) rfl hsize rfl rfl (rest := rest) rfl
    (by rw [hb]; exact d6) (by rw [hb]; exact d9) hout hRframes (by simp only [List.map_cons, List.sum_cons, hcat]; omega) hlocks
  obtain ⟨f1, f2⟩ := vx_frame hsame
  rw [hhp] at f1 f2
  have hWs : s.WarmedH U.vm := State.WarmedH.trans hW0 hW
  have hcl : s.vm.findClass cls = some ce.cls := by
    have h9 := hO.cls
    rw [hvm] at h9
    exact h9
  have hall : s.sameButNew ({ U with vm := s.vm } : State) locs mc ms := by
    subst hA
    obtain ⟨e1, e2⟩ := hsame
    rw [State.setFrames_setFrames] at e1
    have h2 : (T.setVm s.vm).sameButNew ({ U with vm := s.vm } : State) [] (0 + 1) (0 + 6) := ⟨e1, e2⟩
    have h3 := X.same.trans h2
    rw [List.append_nil] at h3
    exact h3.mono hc hs
  refine ⟨U, ?_, .threw T.heap.size, hrun, hend, Or.inr ⟨T.heap.size, rfl, cls, ce, locs, hx U hWs.alike f1 (fun q hq => f2 q hq (fun z hz => nomatch hz)), hce, hO.vm, hcl, hWs, hall, hf⟩⟩
  refine st1 _ ?_
  show Steps p.tables e below (T1.setTop { method := m, pc := pc + 3, locals := ls, stack := .ref T.heap.size :: rest, locked := none }) _
  jvm_step X₁.here [X₁.here.top, hexec, d3', Value.category]
  exact X₁.ldcString hexec (own := own) (text := text) (index := is) (a := sa) hown' hstr'.1 hstr'.2
    (g := { method := m, pc := pc + 4, locals := ls, stack := .ref T.heap.size :: .ref T.heap.size :: rest, locked := none }) rfl d4' _ hsteps
/-- 'throw new E("text")', the text by a wide index -/
theorem vx_throwSW {cc : ByteArray} {pc : Nat} (hexec : p.tables.exec = Jvm.exec) (hb : c.code = cc) (hl : l.stackTraces = false) {own cls text : String} {names : List String} {ik is ic mc ms sa : Nat} {A : Nat → Prop}
    (hown : s.vm.findClass own = some m.cls) (hcls : Bundle.fit cls = true) (hnames : ∀ n ∈ names, Bundle.fit n = true)
    (hk : (Cond.classLink own ik cls).before args s = true) (hini : (Cond.initialized cls).before args s = true) (hstr : vk_R own is text sa s) (hat : ∀ w ∈ vx_atS own ic cls names, w.before args s = true)
    (hgood : ∀ w ∈ Cond.classLink own ik cls :: Cond.initialized cls :: vx_atS own ic cls names, vx_ot w = true)
    (hU : vx_Zq Bundle.tN "UNASSIGNED_STACK" Bundle.steD A s s.heap) (hN : vx_Zq Bundle.tN "SUPPRESSED_SENTINEL" Bundle.listD A s s.heap) (hS : va_S A s.heap H locs) (hsize : ls.size = c.maxLocals)
    (d0 : decode cc pc = .ok (.new ik, 3)) (d3 : decode cc (pc + 3) = .ok (.dup, 1)) (d4 : decode cc (pc + 4) = .ok (.ldc_w is, 3)) (d7 : decode cc (pc + 7) = .ok (.invokespecial ic, 3)) (d10 : decode cc (pc + 10) = .ok (.athrow, 1))
    (hout : ∀ x ∈ c.exceptionTable.toList, covers x (pc + 10) = false)
    (hRframes : names.length + 3 < R.frames) (hRlocals : (rest.map fun v => v.category).sum + (13 * (names.length + 1) + 43) ≤ R.locals) (hRcells : cells + 1 ≤ R.cells) (hRslots : slots + 6 ≤ R.slots) (hlocks : meth.locks = false)
    (hx : ∀ t : State, s.vm.Alike t.vm → H.size ≤ t.heap.size → (∀ q : Nat, q < H.size → t.heap[q]? = H[q]?) → XC cls s t)
    (hf : ∀ z ∈ locs, free z.base) (hc : cells + 1 ≤ mc) (hs : slots + 6 ≤ ms) :
    W p l e R s m args below meth c H locs cells slots (vx_MQ below Qc XC args s mc ms free) (F0 m pc ls rest) := by
  intro T hT X
  have htr : e.platform.stackTraces = false := (show e.platform.stackTraces = l.stackTraces by rw [X.admits.platform]).trans hl
  have Y := vx_rebase X (R' := { frames := R.frames, locals := R.locals, cells := 1, slots := 6 }) (Nat.le_refl _) (Nat.le_refl _) hRcells hRslots
  obtain ⟨s', hA⟩ : ∃ z, z = (T.setVm s.vm).setFrames (.invoking m args :: below) := ⟨_, rfl⟩
  rw [← hA] at Y
  have hvm : s'.vm = s.vm := by rw [hA]; rfl
  have hhp : s'.heap = H := by rw [hA]; exact hT
  have hW0 : s.WarmedH s'.vm := by rw [hvm]; exact State.WarmedH.refl s
  have hat' : ∀ w ∈ vx_atS own ic cls names, w.before args s' = true := fun w hw => vx_ot_at hW0 hvm.symm (hgood w (List.mem_cons_of_mem _ (List.mem_cons_of_mem _ hw))) (hat w hw)
  have hk' : (Cond.classLink own ik cls).before args s' = true := vx_ot_at hW0 hvm.symm (hgood _ List.mem_cons_self) hk
  have hini' : (Cond.initialized cls).before args s' = true := vx_ot_at hW0 hvm.symm (hgood _ (List.mem_cons_of_mem _ List.mem_cons_self)) hini
  have hU' : vx_Zq Bundle.tN "UNASSIGNED_STACK" Bundle.steD A s' s'.heap := by rw [hhp]; exact vx_Zq.moved hW0.alike (hU.kept hS.2.1)
  have hN' : vx_Zq Bundle.tN "SUPPRESSED_SENTINEL" Bundle.listD A s' s'.heap := by rw [hhp]; exact vx_Zq.moved hW0.alike (hN.kept hS.2.1)
  have h : ∀ w ∈ Bundle.ownAtoms own ic cls names, w.before args s' = true := vx_own hat' (vx_isRefq hU'.1) (vx_isRefq hN'.1) hU'.2.word hN'.2.word
  have hown' : s'.vm.findClass own = some m.cls := by rw [hvm]; exact hown
  have hins : (Cond.instantiable cls 6).before args s' = true := h _ (by simp [Bundle.ownAtoms])
  obtain ⟨vm₁, cX, kX, hfX, hkX, -, -, X₁, st1⟩ := Y.newCold hexec (own := own) (C := cls) (index := ik) (n := 6) hown' hk' hins hini'
    (g := F0 m pc ls rest) rfl (by rw [hb]; exact d0) (Nat.le_refl _) (Nat.le_refl _)
  generalize hT1 : (T.setVm vm₁).pushCell { cls := cX, slots := kX.instanceTypes.map defaultValue, vm := .none } = T1 at X₁ st1
  have hcat : (Value.ref T.heap.size).category = 1 := rfl
  have hcellA : T1.heap[T.heap.size]? = some (freshCell cX kX) := by rw [← hT1]; exact State.heap_pushCell_size _ _
  have d3' : decode c.code (pc + 3) = .ok (.dup, 1) := by rw [hb]; exact d3
  have d4' : decode c.code (pc + 4) = .ok (.ldc_w is, 3) := by rw [hb]; exact d4
  have hstr' : vk_R own is text sa s' := vk_R.warm hW0 hstr
  obtain ⟨U, hsteps, hrun, hend, hW, hsame, ce, hce, hO⟩ := X₁.ctorThrowS hexec htr (own := own) (cls := cls) (names := names) (ic := ic) hown' hcls hnames h (fun x hx => nomatch hx) hfX hkX hcellA (by rw [hhp, hT]; exact Nat.le_refl _) (msg := .ref sa) rfl
    (g := { method := m, pc := pc + 7, locals := ls, stack := .ref sa :: .ref T.heap.size :: .ref T.heap.size :: rest, locked := none }) rfl hsize rfl rfl (rest := rest) rfl
    (by rw [hb]; exact d7) (by rw [hb]; exact d10) hout hRframes (by simp only [List.map_cons, List.sum_cons, hcat]; omega) hlocks
  obtain ⟨f1, f2⟩ := vx_frame hsame
  rw [hhp] at f1 f2
  have hWs : s.WarmedH U.vm := State.WarmedH.trans hW0 hW
  have hcl : s.vm.findClass cls = some ce.cls := by
    have h9 := hO.cls
    rw [hvm] at h9
    exact h9
  have hall : s.sameButNew ({ U with vm := s.vm } : State) locs mc ms := by
    subst hA
    obtain ⟨e1, e2⟩ := hsame
    rw [State.setFrames_setFrames] at e1
    have h2 : (T.setVm s.vm).sameButNew ({ U with vm := s.vm } : State) [] (0 + 1) (0 + 6) := ⟨e1, e2⟩
    have h3 := X.same.trans h2
    rw [List.append_nil] at h3
    exact h3.mono hc hs
  refine ⟨U, ?_, .threw T.heap.size, hrun, hend, Or.inr ⟨T.heap.size, rfl, cls, ce, locs, hx U hWs.alike f1 (fun q hq => f2 q hq (fun z hz => nomatch hz)), hce, hO.vm, hcl, hWs, hall, hf⟩⟩
  refine st1 _ ?_
  show Steps p.tables e below (T1.setTop { method := m, pc := pc + 3, locals := ls, stack := .ref T.heap.size :: rest, locked := none }) _
  jvm_step X₁.here [X₁.here.top, hexec, d3', Value.category]
  exact X₁.ldcStringW hexec (own := own) (text := text) (index := is) (a := sa) hown' hstr'.1 hstr'.2
    (g := { method := m, pc := pc + 4, locals := ls, stack := .ref T.heap.size :: .ref T.heap.size :: rest, locked := none }) rfl d4' _ hsteps
end Ends
section Bodies
variable {l : Launch}
theorem vx_ofW {y : MethodName} {ws ws' : List Cond} {rm : Room} {Pc : Array Value → State → Prop} {Qc : Array Value → State → Outcome → State → Prop} {XC : String → State → State → Prop} {mc ms : Nat} {free : Addr → Prop} {cc : ByteArray} {maxL : Nat} {ret : Option FieldType}
    (hy : plainName y.cls = true) (hw : ws = Cond.code y cc maxL ret :: ws')
    (body : ∀ p e s m args below meth c s₁, BodyLoose p l y (headSpec ws rm) cc maxL ret e s m args below meth c s₁ → c.maxLocals = maxL → (∀ x ∈ c.exceptionTable.toList, False) → Pc args s →
      W p l e (headSpec ws rm).room s m args below meth c s.heap [] 0 0 (vx_MQ below Qc XC args s mc ms free) (entryFrame m args maxL)) : vx_Met l y ws rm Pc Qc XC mc ms free := by
  refine MetFree.of_bodyS (code := cc) (maxLocals := maxL) (ret := ret) hy ?_ ?_
  · intro args s m h hn
    obtain ⟨meth, c, h1, h2, h3, h4, h5, h6, -, -⟩ := Cond.code_spec hn (atoms_spec (ws := ws) h _ (by rw [hw]; exact List.mem_cons_self))
    exact ⟨meth, c, h1, h2, h3, h4, h5, h6⟩
  · intro p e s m args below meth c s₁ B hml hP _
    have hh0 : s₁.heap = s.heap := by rw [B.state]; rfl
    have ht : ∀ x ∈ c.exceptionTable.toList, False := by
      obtain ⟨meth9, c9, h1, h2, -, -, -, -, h7, -⟩ := Cond.code_spec B.named (atoms_spec (ws := ws) B.pre _ (by rw [hw]; exact List.mem_cons_self))
      cases Option.some.inj (h1.symm.trans B.method)
      cases Option.some.inj (h2.symm.trans (Stand.of_body B).code)
      intro x hx
      rw [Array.isEmpty_iff.mp h7] at hx
      cases hx
    obtain ⟨t, a1, o, b1, b2, b3⟩ := body p e s m args below meth c s₁ B hml ht hP s₁ hh0 (Stand.of_body B)
    exact ⟨t, o, a1, b1, b2, b3⟩
/-- the table of a body with handlers -/
theorem vx_table {p : Program} {x y : MethodName} {S : Spec} {cc bytes : ByteArray} {maxL maxL' : Nat} {ret ret' : Option FieldType} {e : Env} {s s₁ : State} {m : MethodId} {args : Array Value} {below : List Frame} {meth : Method} {c : Code} {hh : List (Nat × Nat × Nat × Nat)}
    (B : BodyLoose p l y S cc maxL ret e s m args below meth c s₁) (h : (Cond.codeWith y bytes maxL' ret' hh).before args s = true) : c.exceptionTable.toList = tableOf hh := by
  obtain ⟨m9, meth9, c9, hn9, h1, h2, -, -, h6, -⟩ := Cond.codeWith_spec h
  cases Option.some.inj (hn9.symm.trans B.named)
  cases Option.some.inj (h1.symm.trans B.method)
  cases Option.some.inj (h2.symm.trans (Stand.of_body B).code)
  rw [← h6, table_eq]
end Bodies
end VXA
/-! ===== END ===== -/
/-! ===== BEGIN a static call of a method with an exception table ===== -/
section VXS
variable {p : Program} {l : Launch} {e : Env} {R : Room} {s : State} {m : MethodId} {args : Array Value} {below : List Frame} {meth : Method} {c : Code} {T : State} {H : Heap} {locs : List Loc} {cells slots : Nat}
abbrev vx_CSW (R : Room) (s : State) (args : Array Value) (own : String) (index : Nat) (y : MethodName) (bytes : ByteArray) (maxL : Nat) (ret : Option FieldType) (hh : List (Nat × Nat × Nat × Nat)) (ws : List Cond) (rm : Room) (mc ms n : Nat) : Prop :=
  (rm.cells = mc ∧ rm.slots = ms ∧ rm.frames + 1 ≤ R.frames ∧ 8 + (maxL + 11) + rm.locals ≤ R.locals ∧ (∀ w ∈ ws, ∀ (a' : Array Value) (U : State), s.WarmedH U.vm → w.before a' U = true) ∧ Cond.codeWith y bytes maxL ret hh ∈ ws) ∧
  (Cond.codeWith y bytes maxL ret hh).before args s = true ∧ (Cond.initialized y.cls).before args s = true ∧ (y.cls ≠ "java/lang/invoke/MethodHandle" ∧ y.cls ≠ "java/lang/invoke/VarHandle") ∧
  (∀ sig, parseMethodDescriptor y.desc = some sig → n = sig.parameters.length) ∧ (Cond.methodLink own index y).before args s = true ∧ (Cond.static y).before args s = true
theorem vx_cwSW {own : String} {index maxL mc ms : Nat} {y : MethodName} {bytes : ByteArray} {ret : Option FieldType} {hh : List (Nat × Nat × Nat × Nat)} {Ts ws ws' : List Cond} {rm : Room} (n : Nat) (ht : ∀ w ∈ Ts, w.before args s = true) (hT : GoodIn Ts (va_wsS own index y ws)) (hw : ws = Cond.codeWith y bytes maxL ret hh :: ws') (hrc : rm.cells = mc) (hrs : rm.slots = ms)
    (hd : y.cls ≠ "java/lang/invoke/MethodHandle" ∧ y.cls ≠ "java/lang/invoke/VarHandle" ∧ (parseMethodDescriptor y.desc).map (fun d => d.parameters.length) = some n) (hR : rm.frames + 1 ≤ R.frames ∧ 8 + (maxL + 11) + rm.locals ≤ R.locals) :
    vx_CSW R s args own index y bytes maxL ret hh ws rm mc ms n := by
  have ok : ∀ w ∈ va_wsS own index y ws, w.before args s = true := fun w h => ht w (hT w h).1
  have hG : GoodIn Ts ws := fun w h => hT w (by unfold va_wsS; exact List.mem_append_right _ h)
  have hc : Cond.codeWith y bytes maxL ret hh ∈ ws := by rw [hw]; exact List.mem_cons_self
  refine ⟨⟨hrc, hrs, hR.1, hR.2, pay_in ht hG, hc⟩, ht _ (hG _ hc).1, ok _ (by simp [va_wsS]), ⟨hd.1, hd.2.1⟩, fun sig h => ?_, ok _ (by simp [va_wsS]), ok _ (by simp [va_wsS])⟩
  have h2 := hd.2.2
  rw [h] at h2
  exact (Option.some.inj h2).symm
theorem vx_callSW (X : Stand p l e R s m args below meth c T locs cells slots) (hexec : p.tables.exec = Jvm.exec) {own : String} {index : Nat} {y : MethodName} {bytes : ByteArray} {maxL : Nat} {ret : Option FieldType} {hh : List (Nat × Nat × Nat × Nat)}
    (hown : s.vm.findClass own = some m.cls) (hlink : (Cond.methodLink own index y).before args s = true) (hstat : (Cond.static y).before args s = true) (hinit : (Cond.initialized y.cls).before args s = true)
    (hcode : (Cond.codeWith y bytes maxL ret hh).before args s = true) (hy : y.cls ≠ "java/lang/invoke/MethodHandle" ∧ y.cls ≠ "java/lang/invoke/VarHandle")
    {W9 : Nat} {Pre : Pt → Array Value → Prop} {Post : Pt → Array Value → Option Value → Pt → Prop} (hK : Back l R p e below s args y 3 W9 Pre Post)
    {g : JFrame} (hg : g.method = m) (hsize : g.locals.size = c.maxLocals) {argsL rest : List Value} (hlen : ∀ sig, parseMethodDescriptor y.desc = some sig → argsL.length = sig.parameters.length)
    (hstack : g.stack = argsL.reverse ++ rest) (hW : 2 * g.monitorRoom + (rest.map fun v => v.category).sum ≤ W9) (hdg : decode c.code g.pc = .ok (.invokestatic index, 3))
    (hpre : ∀ vm₁, s.WarmedH vm₁ → Pre ⟨T.setVm vm₁, locs, cells, slots⟩ argsL.toArray) :
    ∃ (v : Option Value) (vm₁ : Vm) (B : Pt), s.WarmedH vm₁ ∧ Stand p l e R s m args below meth c B.U B.locs B.cells B.slots ∧ Post ⟨T.setVm vm₁, locs, cells, slots⟩ argsL.toArray v B ∧
      ∀ target, Steps p.tables e below (B.U.setTop { g with pc := g.pc + 3, stack := v.toList ++ rest }) target → Steps p.tables e below (T.setTop g) target := by
  obtain ⟨mk, methM, cM, hnamed, hmethM, -, -, -, -, -, -, hsigM⟩ := Cond.codeWith_spec hcode
  have hstatic : methM.isStatic = true := Cond.static_spec hnamed hmethM hstat
  obtain ⟨kP, hkP, -⟩ := className_of_methodNamed hnamed
  have hinitP : kP.init = .initialized := Cond.initialized_spec (findClass_of_methodNamed hnamed) hkP hinit
  obtain ⟨vm₁, X₁, hstep₁⟩ := X.invokestatic hexec hown hlink hnamed hmethM hstatic hkP hinitP hy (g := g) hg (argsL := argsL) (rest := rest) (hlen _ hsigM) hstack hdg
  obtain ⟨v, B, X', hpost, hsteps⟩ := hK m meth c ⟨T.setVm vm₁, locs, cells, slots⟩ { g with stack := rest } (.invokestatic index) mk argsL.toArray X₁ hg hsize hdg hW (X₁.named hnamed) (hpre vm₁ X₁.warmed)
  exact ⟨v, vm₁, B, X₁.warmed, X', hpost, fun target h => hstep₁ _ fun acts => by rw [doInvoke_state]; exact hsteps.trans h⟩
theorem vx_runSW {y : MethodName} {bytes cc : ByteArray} {maxL nL mc ms n index : Nat} {ret : Option FieldType} {hh : List (Nat × Nat × Nat × Nat)} {ws : List Cond} {rm : Room} {Pc : Array Value → State → Prop} {Qc : Array Value → State → Outcome → State → Prop} {free : Addr → Prop} {Ts : List Cond} {own : String} {As rest : List Value} {g : JFrame}
    (S : CallFix p m c cc nL s args Ts own) (hM : Met l y ws rm Pc Qc mc ms free) (cw : vx_CSW R s args own index y bytes maxL ret hh ws rm mc ms n) (hp : PreS s H Pc As)
    (hg : g.method = m) (hn : As.length = n) (hsize : g.locals.size = nL) (hstack : g.stack = As.reverse ++ rest) (hW : 2 * g.monitorRoom + (rest.map fun v => v.category).sum ≤ 8) (hdg : decode cc g.pc = .ok (.invokestatic index, 3)) (hf : cells + mc ≤ R.cells ∧ slots + ms ≤ R.slots) :
    va_Run p l e R s m args below meth c H locs cells slots mc ms g rest (Qc As.toArray) (free) := by
  obtain ⟨⟨hrc, hrs, hfr, hlo, hws, hcw⟩, hcode, hini, hy, hlen, hl, hstt⟩ := cw
  have hK : Back l R p e below s args y 3 8 (PreOf R mc ms Pc) (PostOf Qc mc ms free) := va_backW (hh := hh) (bytes := bytes) (maxL := maxL) (ret := ret) hM hp.1 hrc hrs hfr hlo hws hcw (fun a' U hW => word_at hW (Or.inl (by first | rfl | simp [Cond.onTables, Cond.keeps, Cond.steady])) hini)
  obtain ⟨hx, hb, hml, ho, -⟩ := S
  intro T hT X
  obtain ⟨v, vm₁, ⟨U', l2, c2, s2⟩, hW₁, X', ⟨g', mk, t, L, e1, e2, hq, h1, hL, h2, h3⟩, st⟩ := vx_callSW X hx (hh := hh) (bytes := bytes) (maxL := maxL) (ret := ret) ho hl hstt hini hcode hy hK hg (hsize.trans hml.symm) (argsL := As) (rest := rest) (fun sig h => hn.trans (hlen sig h)) hstack hW (by rw [hb]; exact hdg)
    (fun vm₁ hW₁ => ⟨hf.1, hf.2, hp.2 (T.setVm vm₁) hT hW₁⟩)
  dsimp only [Pt.U, Pt.locs, Pt.cells, Pt.slots] at X' e1 e2 h1 h2 h3 st
  subst h1; subst h2; subst h3
  exact ⟨v, (T.setVm vm₁).calling g' mk As.toArray, t, U', L, hT, X', hL, e1, e2, hq, st⟩
/-- not caught here, past rows that name other classes: it goes on to the caller -/
theorem vx_outP {p : Program} {l : Launch} {e : Env} {R : Room} {s : State} {m : MethodId} {args : Array Value} {below : List Frame} {meth : Method} {c : Code} {H : Heap} {locs : List Loc} {cells slots : Nat} {free : Addr → Prop} {ls : Array Slot} {rest : List Value} {Qc : Array Value → State → Outcome → State → Prop} {XC : String → State → State → Prop}
    {pc : Nat} {own E : String} {ce : Cell} {q : Addr} {mc ms : Nat} (hown : s.vm.findClass own = some m.cls) (hlocks : meth.locks = false)
    (hpass : ∀ z ∈ c.exceptionTable.toList, covers z pc = false ∨ (z.catchType ≠ 0 ∧ ∃ nm : String, (Cond.classLink own z.catchType nm).before args s = true ∧ va_Nc E nm s)) (hcell : H[q]? = some ce) (hv : ce.vm = .none) (hcl : s.vm.findClass E = some ce.cls)
    (hx : ∀ t : State, t.heap = H → s.vm.Alike t.vm → XC E s t) (hf : ∀ z ∈ locs, free z.base) (hc : cells ≤ mc) (hs : slots ≤ ms) :
    vx_W p l e R s m args below meth c H locs cells slots (vx_MQ below Qc XC args s mc ms free) (F0 m pc ls rest) q := by
  intro T hT X
  have hpl : e.platform.magicAccessors = ({} : Platform).magicAccessors := by rw [X.admits.platform]
  obtain ⟨vm', hW', X', st⟩ := X.outThrough hlocks q (g := F0 m pc ls rest) rfl rfl rfl (cell := ce) (by rw [hT]; exact hcell) (by rw [hv]; rfl)
    (by obtain ⟨k9, h9, -⟩ := Vm.findClass_spec hcl; exact ⟨k9, h9⟩) (fun z hz => by
      rcases hpass z hz with h | ⟨hz0, nm, hl1, hn1⟩
      · exact Or.inl h
      · obtain ⟨c6, hc6, hcl6⟩ := Cond.classLink_spec hown hl1 e.platform hpl
        obtain ⟨a8, b8, h1, h2, h3⟩ := hn1
        cases Option.some.inj (h1.symm.trans hcl)
        cases Option.some.inj (h2.symm.trans hc6)
        exact Or.inr ⟨hz0, _, hcl6, h3⟩)
  obtain ⟨g₀, hfr⟩ := X'.frames_eq
  have hcell9 : ((T.setVm vm').setFrames (.throwing q :: below)).heap[q]? = some ce := by
    show T.heap[q]? = some ce
    rw [hT]; exact hcell
  have hend : Ended ((T.setVm vm').setFrames (.throwing q :: below)) below (.threw q) := State.frames_setFrames _ (State.cur_lt_of_frames hfr)
  refine ⟨(T.setVm vm').setFrames (.throwing q :: below), ?_, .threw q, X'.here.running, hend, Or.inr ⟨q, rfl, E, ce, locs, hx _ hT (X'.ends _).1.alike, hcell9, hv, hcl, (X'.ends _).1, (X'.ends _).2.mono hc hs, hf⟩⟩
  rw [X.pushThrowing_eq]
  exact st
/-- a thing of a world lies in the heap -/
theorem vx_lt {D : va_G} {cl : List vw_C} {ws : va_W} {H1 : Heap} (h : va_P D cl ws H1) {k : Nat} {q : Nat × va_E} (hk : ws[k]? = some q) : q.1 < H1.size := (h k q hk).lt
end VXS
/-! ===== END ===== -/
/-! ===== BEGIN methods with a table of their own: called by a name, returning or throwing ===== -/
section VXH
/-! vx_backW, vx_callVX, vx_callSX, vx_callVW, vx_runVW, vx_runVX, vx_runSX, vx_ofWH follow the same proofs as their sisters above (Free/Laws.lean, Shelf42/LK1.lean); vx_outP calls Shelf42/NT130.lean (outThrough). -/
section
variable {l : Launch} {R : Room} {p : Program} {e : Env} {below : List Frame} {s : State} {sargs : Array Value} {y : MethodName} {len W9 : Nat}
theorem vx_backW {ws : List Cond} {rm : Room} {Pc : Array Value → State → Prop} {Qc : Array Value → State → Outcome → State → Prop} {XC : String → State → State → Prop} {mc ms : Nat} {free : Addr → Prop} {bytes : ByteArray} {maxL : Nat} {ret : Option FieldType} {hh : List (Nat × Nat × Nat × Nat)}
    (hM : vx_Met l y ws rm Pc Qc XC mc ms free) (hblind : FrameBlind Pc) (hrc : rm.cells = mc) (hrs : rm.slots = ms)
    (hframes : rm.frames + 1 ≤ R.frames) (hlocals : W9 + (maxL + 11) + rm.locals ≤ R.locals)
    (hws : ∀ w ∈ ws, ∀ a' U, s.WarmedH U.vm → w.before a' U = true) (hcode : Cond.codeWith y bytes maxL ret hh ∈ ws) (hinit : ∀ a' U, s.WarmedH U.vm → (Cond.initialized y.cls).before a' U = true) :
    vx_Back l R p e below s sargs y len W9 (PreOf R mc ms Pc) (PostOf Qc mc ms free) (vx_Post XC mc ms free) := by
  intro m meth c A g ig mk a X hg hsize hdg hW hn hp
  have h1 : (headSpec ws rm).pre.before a A.U = true := atoms_intro fun w hw => hws w hw _ _ X.warmed
  have h2 : (Cond.codeWith y bytes maxL ret hh).before a A.U = true := hws _ hcode _ _ X.warmed
  have h3 : (Cond.initialized y.cls).before a A.U = true := hinit _ _ X.warmed
  have h4 : A.cells + (headSpec ws rm).room.cells ≤ R.cells := by rw [show (headSpec ws rm).room.cells = mc from hrc]; exact hp.1
  have h5 : A.slots + (headSpec ws rm).room.slots ≤ R.slots := by rw [show (headSpec ws rm).room.slots = ms from hrs]; exact hp.2.1
  have hPc : Pc a (A.U.calling g mk a) := hblind _ _ _ _ hp.2.2
  obtain ⟨U, Ls, c0, s0⟩ := A
  dsimp only [Pt.U, Pt.locs, Pt.cells, Pt.slots] at h1 h2 h3 h4 h5 X hn hPc ⊢
  obtain ⟨m9, methY, cY, hn9, hmY, hcY, -, hlY, -⟩ := Cond.codeWith_spec h2
  cases Option.some.inj (hn9.symm.trans hn)
  obtain ⟨kY, hkY, -⟩ := className_of_methodNamed hn
  have hinitY : kY.init = .initialized := Cond.initialized_spec (findClass_of_methodNamed hn) hkY h3
  have h : At U g.method c below := by rw [hg]; exact X.here
  have hlocals9 : W9 + (maxL + 11) + (headSpec ws rm).room.locals ≤ R.locals := hlocals
  have happ : (headSpec ws rm).appliesLoose y e.platform (U.calling g mk a) = true :=
    Spec.appliesLoose_calling (g := g) h hdg hn hkY hinitY
      (X.room_calling (g := g) (R' := (headSpec ws rm).room) hsize hmY hcY hframes (by rw [hlY]; omega) h4 h5) h1
  obtain ⟨mid, hmid⟩ := h.above
  have hfr : (U.setTop g).frames = (.java g :: mid) ++ below := by rw [State.frames_setTop' g h.top, hmid]; rfl
  obtain ⟨o, s₂, hsteps, -, hend, hq⟩ := Steps.callFree hM p X.admits X.cas X.clock (acts := []) hfr happ hPc trivial
  have hq' : vx_Q Qc XC mc ms free a (U.calling g mk a) o s₂ := hq
  rw [State.frames_setTop' g h.top] at hend
  obtain ⟨g₀, hg0⟩ := Option.isSome_iff_exists.mp h.top
  obtain ⟨r, hr⟩ := State.topJava?_eq_some.mp hg0
  have hr' : (({ U with heap := s₂.heap, slotsUsed := s₂.slotsUsed } : State).setVm s₂.vm).frames = .java g₀ :: r := hr
  rcases hq' with ⟨hqc, L, hfe, hL⟩ | ⟨q, rfl, E, ce, L, hx, hce, hcv, hcl, hW₂, hsm, hL⟩
  · obtain ⟨⟨v, rfl⟩, hW₂, e2, q2, q3, q4, q5, q6⟩ := id hfe
    have e3 : s₂ = ({ (U.calling g mk a).setFrames s₂.frames with heap := s₂.heap, slotsUsed := s₂.slotsUsed } : State).setVm s₂.vm := by
      have : s₂ = ({ s₂ with vm := (U.calling g mk a).vm } : State).setVm s₂.vm := rfl
      rw [e2] at this
      exact this
    obtain ⟨c₂, i₂, len₂, hc₂, hd₂, hf₂⟩ := hend
    have hW' : U.WarmedH s₂.vm := hW₂
    have hcc : c₂ = c := by
      have h1 : s₂.code? g.method = U.code? g.method := by
        rw [State.code?_eq, State.code?_eq, hW'.alike.method?]
      exact Option.some.inj (hc₂.symm.trans (h1.trans h.code))
    subst hcc
    have hlen : len₂ = len := by rw [hdg] at hd₂; cases hd₂; rfl
    subst hlen
    have hs₂ : s₂ = (({ U with heap := s₂.heap, slotsUsed := s₂.slotsUsed } : State).setVm s₂.vm).setTop { g with pc := g.pc + len₂, stack := v.toList ++ g.stack } := by
      refine e3.trans ?_
      rw [hf₂, State.calling_eq h.top, State.setFrames_setFrames, State.setTop_of_frames _ hr', hr]
      rfl
    have hsame : U.sameButNew ({ U with heap := s₂.heap, slotsUsed := s₂.slotsUsed } : State) L mc ms := by
      refine ⟨?_, q2, q3, q4, q5, q6⟩
      obtain ⟨t, ht, -⟩ := State.frames_cons hr
      show ({ U with heap := s₂.heap, slotsUsed := s₂.slotsUsed } : State) = { U.setFrames U.frames with heap := s₂.heap, slotsUsed := s₂.slotsUsed }
      rw [State.setFrames_self ht]
    subst hg
    refine Or.inl ⟨v, ⟨(({ U with heap := s₂.heap, slotsUsed := s₂.slotsUsed } : State).setVm s₂.vm), Ls ++ L, c0 + mc, s0 + ms⟩,
      ⟨X.admits, X.cas, X.clock, X.frames, X.room, X.hears, X.method, X.code, (X.here.setHeapUsed s₂.heap s₂.slotsUsed).setVm hW'.alike, X.tail, State.WarmedH.trans X.warmed hW', X.limits, X.bytes, X.same.trans (hsame.setVm s.vm)⟩,
      ⟨g, mk, s₂, L, rfl, rfl, hqc, rfl, hL, rfl, rfl⟩, ?_⟩
    show Steps p.tables e below _ ((({ U with heap := s₂.heap, slotsUsed := s₂.slotsUsed } : State).setVm s₂.vm).setTop { g with pc := g.pc + len₂, stack := v.toList ++ g.stack })
    rw [← hs₂]
    exact hsteps
  · obtain ⟨e2, q2, q3, q4, q5, q6⟩ := id hsm
    have e3 : s₂ = ({ (U.calling g mk a).setFrames s₂.frames with heap := s₂.heap, slotsUsed := s₂.slotsUsed } : State).setVm s₂.vm := by
      have : s₂ = ({ s₂ with vm := (U.calling g mk a).vm } : State).setVm s₂.vm := rfl
      rw [e2] at this
      exact this
    have hf₂ : s₂.frames = .throwing q :: .java g :: U.frames.tail := hend
    have hW' : U.WarmedH s₂.vm := hW₂
    have hs₂ : s₂ = ((({ U with heap := s₂.heap, slotsUsed := s₂.slotsUsed } : State).setVm s₂.vm).setTop g).pushFrame (.throwing q) := by
      refine e3.trans ?_
      rw [hf₂, State.calling_eq h.top, State.setFrames_setFrames, State.pushFrame, State.frames_setTop _ hr', State.setTop_of_frames _ hr', State.setFrames_setFrames, hr]
      rfl
    have hsame : U.sameButNew ({ U with heap := s₂.heap, slotsUsed := s₂.slotsUsed } : State) L mc ms := by
      refine ⟨?_, q2, q3, q4, q5, q6⟩
      obtain ⟨t, ht, -⟩ := State.frames_cons hr
      show ({ U with heap := s₂.heap, slotsUsed := s₂.slotsUsed } : State) = { U.setFrames U.frames with heap := s₂.heap, slotsUsed := s₂.slotsUsed }
      rw [State.setFrames_self ht]
    subst hg
    refine Or.inr ⟨q, ⟨(({ U with heap := s₂.heap, slotsUsed := s₂.slotsUsed } : State).setVm s₂.vm), Ls ++ L, c0 + mc, s0 + ms⟩,
      ⟨X.admits, X.cas, X.clock, X.frames, X.room, X.hears, X.method, X.code, (X.here.setHeapUsed s₂.heap s₂.slotsUsed).setVm hW'.alike, X.tail, State.WarmedH.trans X.warmed hW', X.limits, X.bytes, X.same.trans (hsame.setVm s.vm)⟩,
      ⟨g, mk, s₂, L, E, ce, rfl, rfl, hx, hce, hcv, hcl, rfl, hL, rfl, rfl⟩, ?_⟩
    show Steps p.tables e below _ (((({ U with heap := s₂.heap, slotsUsed := s₂.slotsUsed } : State).setVm s₂.vm).setTop g).pushFrame (.throwing q))
    rw [← hs₂]
    exact hsteps
end
variable {p : Program} {l : Launch} {e : Env} {R : Room} {s : State} {m : MethodId} {args : Array Value} {below : List Frame} {meth : Method} {c : Code} {T : State} {H : Heap} {locs : List Loc} {cells slots : Nat}
theorem vx_callVX (X : Stand p l e R s m args below meth c T locs cells slots) (hexec : p.tables.exec = Jvm.exec) {own C : String} {index : Nat} {y : MethodName} {bytes : ByteArray} {maxL : Nat} {ret : Option FieldType} {hh : List (Nat × Nat × Nat × Nat)}
    (hown : s.vm.findClass own = some m.cls) (hlink : (Cond.methodLink own index y).before args s = true) (hinst : (Cond.instanceMethod y).before args s = true) (hsel : (Cond.selects C y y).before args s = true)
    (hcode : (Cond.codeWith y bytes maxL ret hh).before args s = true) (hy : y.cls ≠ "java/lang/invoke/MethodHandle" ∧ y.cls ≠ "java/lang/invoke/VarHandle")
    {W9 : Nat} {Pre : Pt → Array Value → Prop} {Post : Pt → Array Value → Option Value → Pt → Prop} {PostX : Pt → Array Value → Addr → Pt → Prop} (hK : vx_Back l R p e below s args y 3 W9 Pre Post PostX)
    {b : Addr} {cellB : Cell} (hcell : T.heap[b]? = some cellB) (hobj : cellB.vm.isStatics = false) (hcls : s.vm.findClass C = some cellB.cls)
    {g : JFrame} (hg : g.method = m) (hsize : g.locals.size = c.maxLocals) {argsL rest : List Value} (hlen : ∀ sig, parseMethodDescriptor y.desc = some sig → argsL.length = sig.parameters.length)
    (hstack : g.stack = argsL.reverse ++ .ref b :: rest) (hW : 2 * g.monitorRoom + (rest.map fun v => v.category).sum ≤ W9) (hdg : decode c.code g.pc = .ok (.invokevirtual index, 3))
    (hpre : ∀ vm₁, s.WarmedH vm₁ → Pre ⟨T.setVm vm₁, locs, cells, slots⟩ (Value.ref b :: argsL).toArray) :
    (∃ (v : Option Value) (vm₁ : Vm) (B : Pt), s.WarmedH vm₁ ∧ Stand p l e R s m args below meth c B.U B.locs B.cells B.slots ∧ Post ⟨T.setVm vm₁, locs, cells, slots⟩ (Value.ref b :: argsL).toArray v B ∧
      ∀ target, Steps p.tables e below (B.U.setTop { g with pc := g.pc + 3, stack := v.toList ++ rest }) target → Steps p.tables e below (T.setTop g) target) ∨
    (∃ (q : Addr) (vm₁ : Vm) (B : Pt), s.WarmedH vm₁ ∧ Stand p l e R s m args below meth c B.U B.locs B.cells B.slots ∧ PostX ⟨T.setVm vm₁, locs, cells, slots⟩ (Value.ref b :: argsL).toArray q B ∧
      Steps p.tables e below (T.setTop g) ((B.U.setTop { g with stack := rest }).pushFrame (.throwing q))) := by
  obtain ⟨mk, methM, hnamed, hmethM, hstM, habM⟩ := Cond.instanceMethod_spec hinst
  obtain ⟨m8, methM', cM, hn8, hmethM', -, -, -, -, -, -, hsigM⟩ := Cond.codeWith_spec hcode
  cases Option.some.inj (hn8.symm.trans hnamed)
  cases hmethM.symm.trans hmethM'
  obtain ⟨c2, r2, m2, q1, q2, q3, q4, kP, hkP, hkPi⟩ := Cond.selects_spec hsel
  cases hcls.symm.trans q1
  cases (State.methodFound?_of_named hnamed hy).symm.trans q2
  cases hnamed.symm.trans q3
  have hselP : selectMethod e.platform s.vm cellB.cls mk = .method mk := by rw [Launch.admits_selectMethod X.admits]; exact q4
  obtain ⟨vm₁, X₁, hstep₁⟩ := X.invokevirtual hexec hown hlink hnamed hmethM hstM hkP hkPi hy (a := b) (cell := cellB) hcell
    (fun z h => by rw [h] at hobj; cases hobj) hselP hmethM habM hkP hkPi (g := g) hg (argsL := argsL) (rest := rest) (hlen _ hsigM) hstack hdg
  rcases hK m meth c ⟨T.setVm vm₁, locs, cells, slots⟩ { g with stack := rest } (.invokevirtual index) mk (Value.ref b :: argsL).toArray X₁ hg hsize hdg hW (X₁.named hnamed) (hpre vm₁ X₁.warmed) with ⟨v, B, X', hpost, hsteps⟩ | ⟨q, B, X', hpost, hsteps⟩
  · exact Or.inl ⟨v, vm₁, B, X₁.warmed, X', hpost, fun target h => hstep₁ _ fun acts => by rw [doInvoke_state]; exact hsteps.trans h⟩
  · exact Or.inr ⟨q, vm₁, B, X₁.warmed, X', hpost, hstep₁ _ fun acts => by rw [doInvoke_state]; exact hsteps⟩
theorem vx_callSX (X : Stand p l e R s m args below meth c T locs cells slots) (hexec : p.tables.exec = Jvm.exec) {own : String} {index : Nat} {y : MethodName} {bytes : ByteArray} {maxL : Nat} {ret : Option FieldType} {hh : List (Nat × Nat × Nat × Nat)}
    (hown : s.vm.findClass own = some m.cls) (hlink : (Cond.methodLink own index y).before args s = true) (hstat : (Cond.static y).before args s = true) (hinit : (Cond.initialized y.cls).before args s = true)
    (hcode : (Cond.codeWith y bytes maxL ret hh).before args s = true) (hy : y.cls ≠ "java/lang/invoke/MethodHandle" ∧ y.cls ≠ "java/lang/invoke/VarHandle")
    {W9 : Nat} {Pre : Pt → Array Value → Prop} {Post : Pt → Array Value → Option Value → Pt → Prop} {PostX : Pt → Array Value → Addr → Pt → Prop} (hK : vx_Back l R p e below s args y 3 W9 Pre Post PostX)
    {g : JFrame} (hg : g.method = m) (hsize : g.locals.size = c.maxLocals) {argsL rest : List Value} (hlen : ∀ sig, parseMethodDescriptor y.desc = some sig → argsL.length = sig.parameters.length)
    (hstack : g.stack = argsL.reverse ++ rest) (hW : 2 * g.monitorRoom + (rest.map fun v => v.category).sum ≤ W9) (hdg : decode c.code g.pc = .ok (.invokestatic index, 3))
    (hpre : ∀ vm₁, s.WarmedH vm₁ → Pre ⟨T.setVm vm₁, locs, cells, slots⟩ argsL.toArray) :
    (∃ (v : Option Value) (vm₁ : Vm) (B : Pt), s.WarmedH vm₁ ∧ Stand p l e R s m args below meth c B.U B.locs B.cells B.slots ∧ Post ⟨T.setVm vm₁, locs, cells, slots⟩ argsL.toArray v B ∧
      ∀ target, Steps p.tables e below (B.U.setTop { g with pc := g.pc + 3, stack := v.toList ++ rest }) target → Steps p.tables e below (T.setTop g) target) ∨
    (∃ (q : Addr) (vm₁ : Vm) (B : Pt), s.WarmedH vm₁ ∧ Stand p l e R s m args below meth c B.U B.locs B.cells B.slots ∧ PostX ⟨T.setVm vm₁, locs, cells, slots⟩ argsL.toArray q B ∧
      Steps p.tables e below (T.setTop g) ((B.U.setTop { g with stack := rest }).pushFrame (.throwing q))) := by
  obtain ⟨mk, methM, cM, hnamed, hmethM, -, -, -, -, -, -, hsigM⟩ := Cond.codeWith_spec hcode
  have hstatic : methM.isStatic = true := Cond.static_spec hnamed hmethM hstat
  obtain ⟨kP, hkP, -⟩ := className_of_methodNamed hnamed
  have hinitP : kP.init = .initialized := Cond.initialized_spec (findClass_of_methodNamed hnamed) hkP hinit
  obtain ⟨vm₁, X₁, hstep₁⟩ := X.invokestatic hexec hown hlink hnamed hmethM hstatic hkP hinitP hy (g := g) hg (argsL := argsL) (rest := rest) (hlen _ hsigM) hstack hdg
  rcases hK m meth c ⟨T.setVm vm₁, locs, cells, slots⟩ { g with stack := rest } (.invokestatic index) mk argsL.toArray X₁ hg hsize hdg hW (X₁.named hnamed) (hpre vm₁ X₁.warmed) with ⟨v, B, X', hpost, hsteps⟩ | ⟨q, B, X', hpost, hsteps⟩
  · exact Or.inl ⟨v, vm₁, B, X₁.warmed, X', hpost, fun target h => hstep₁ _ fun acts => by rw [doInvoke_state]; exact hsteps.trans h⟩
  · exact Or.inr ⟨q, vm₁, B, X₁.warmed, X', hpost, hstep₁ _ fun acts => by rw [doInvoke_state]; exact hsteps⟩
theorem vx_callVW (X : Stand p l e R s m args below meth c T locs cells slots) (hexec : p.tables.exec = Jvm.exec) {own C : String} {index : Nat} {y : MethodName} {bytes : ByteArray} {maxL : Nat} {ret : Option FieldType} {hh : List (Nat × Nat × Nat × Nat)}
    (hown : s.vm.findClass own = some m.cls) (hlink : (Cond.methodLink own index y).before args s = true) (hinst : (Cond.instanceMethod y).before args s = true) (hsel : (Cond.selects C y y).before args s = true)
    (hcode : (Cond.codeWith y bytes maxL ret hh).before args s = true) (hy : y.cls ≠ "java/lang/invoke/MethodHandle" ∧ y.cls ≠ "java/lang/invoke/VarHandle")
    {W9 : Nat} {Pre : Pt → Array Value → Prop} {Post : Pt → Array Value → Option Value → Pt → Prop} (hK : Back l R p e below s args y 3 W9 Pre Post)
    {b : Addr} {cellB : Cell} (hcell : T.heap[b]? = some cellB) (hobj : cellB.vm.isStatics = false) (hcls : s.vm.findClass C = some cellB.cls)
    {g : JFrame} (hg : g.method = m) (hsize : g.locals.size = c.maxLocals) {argsL rest : List Value} (hlen : ∀ sig, parseMethodDescriptor y.desc = some sig → argsL.length = sig.parameters.length)
    (hstack : g.stack = argsL.reverse ++ .ref b :: rest) (hW : 2 * g.monitorRoom + (rest.map fun v => v.category).sum ≤ W9) (hdg : decode c.code g.pc = .ok (.invokevirtual index, 3))
    (hpre : ∀ vm₁, s.WarmedH vm₁ → Pre ⟨T.setVm vm₁, locs, cells, slots⟩ (Value.ref b :: argsL).toArray) :
    ∃ (v : Option Value) (vm₁ : Vm) (B : Pt), s.WarmedH vm₁ ∧ Stand p l e R s m args below meth c B.U B.locs B.cells B.slots ∧ Post ⟨T.setVm vm₁, locs, cells, slots⟩ (Value.ref b :: argsL).toArray v B ∧
      ∀ target, Steps p.tables e below (B.U.setTop { g with pc := g.pc + 3, stack := v.toList ++ rest }) target → Steps p.tables e below (T.setTop g) target := by
  obtain ⟨mk, methM, hnamed, hmethM, hstM, habM⟩ := Cond.instanceMethod_spec hinst
  obtain ⟨m8, methM', cM, hn8, hmethM', -, -, -, -, -, -, hsigM⟩ := Cond.codeWith_spec hcode
  cases Option.some.inj (hn8.symm.trans hnamed)
  cases hmethM.symm.trans hmethM'
  obtain ⟨c2, r2, m2, q1, q2, q3, q4, kP, hkP, hkPi⟩ := Cond.selects_spec hsel
  cases hcls.symm.trans q1
  cases (State.methodFound?_of_named hnamed hy).symm.trans q2
  cases hnamed.symm.trans q3
  have hselP : selectMethod e.platform s.vm cellB.cls mk = .method mk := by rw [Launch.admits_selectMethod X.admits]; exact q4
  obtain ⟨vm₁, X₁, hstep₁⟩ := X.invokevirtual hexec hown hlink hnamed hmethM hstM hkP hkPi hy (a := b) (cell := cellB) hcell
    (fun z h => by rw [h] at hobj; cases hobj) hselP hmethM habM hkP hkPi (g := g) hg (argsL := argsL) (rest := rest) (hlen _ hsigM) hstack hdg
  obtain ⟨v, B, X', hpost, hsteps⟩ := hK m meth c ⟨T.setVm vm₁, locs, cells, slots⟩ { g with stack := rest } (.invokevirtual index) mk (Value.ref b :: argsL).toArray X₁ hg hsize hdg hW (X₁.named hnamed) (hpre vm₁ X₁.warmed)
  exact ⟨v, vm₁, B, X₁.warmed, X', hpost, fun target h => hstep₁ _ fun acts => by rw [doInvoke_state]; exact hsteps.trans h⟩
abbrev vx_CVW (R : Room) (s : State) (args : Array Value) (own C : String) (index : Nat) (y : MethodName) (bytes : ByteArray) (maxL : Nat) (ret : Option FieldType) (hh : List (Nat × Nat × Nat × Nat)) (ws : List Cond) (rm : Room) (mc ms n : Nat) : Prop :=
  (rm.cells = mc ∧ rm.slots = ms ∧ rm.frames + 1 ≤ R.frames ∧ 8 + (maxL + 11) + rm.locals ≤ R.locals ∧ (∀ w ∈ ws, ∀ (a' : Array Value) (U : State), s.WarmedH U.vm → w.before a' U = true) ∧ Cond.codeWith y bytes maxL ret hh ∈ ws) ∧
  (Cond.codeWith y bytes maxL ret hh).before args s = true ∧ (Cond.initialized y.cls).before args s = true ∧ (y.cls ≠ "java/lang/invoke/MethodHandle" ∧ y.cls ≠ "java/lang/invoke/VarHandle") ∧
  (∀ sig, parseMethodDescriptor y.desc = some sig → n = sig.parameters.length) ∧ (Cond.methodLink own index y).before args s = true ∧ (Cond.instanceMethod y).before args s = true ∧ (Cond.selects C y y).before args s = true
theorem vx_cwVW {own C : String} {index maxL mc ms : Nat} {y : MethodName} {bytes : ByteArray} {ret : Option FieldType} {hh : List (Nat × Nat × Nat × Nat)} {Ts ws ws' : List Cond} {rm : Room} (n : Nat) (ht : ∀ w ∈ Ts, w.before args s = true) (hT : GoodIn Ts (wsV own index C y ws)) (hw : ws = Cond.codeWith y bytes maxL ret hh :: ws') (hrc : rm.cells = mc) (hrs : rm.slots = ms)
    (hd : y.cls = C ∧ y.cls ≠ "java/lang/invoke/MethodHandle" ∧ y.cls ≠ "java/lang/invoke/VarHandle" ∧ (parseMethodDescriptor y.desc).map (fun d => d.parameters.length) = some n) (hR : rm.frames + 1 ≤ R.frames ∧ 8 + (maxL + 11) + rm.locals ≤ R.locals) :
    vx_CVW R s args own C index y bytes maxL ret hh ws rm mc ms n := by
  obtain ⟨hC, hd⟩ := hd
  subst hC
  have ok : ∀ w ∈ wsV own index y.cls y ws, w.before args s = true := fun w h => ht w (hT w h).1
  have hG : GoodIn Ts ws := fun w h => hT w (by unfold wsV; exact List.mem_append_right _ h)
  have hc : Cond.codeWith y bytes maxL ret hh ∈ ws := by rw [hw]; exact List.mem_cons_self
  refine ⟨⟨hrc, hrs, hR.1, hR.2, pay_in ht hG, hc⟩, ht _ (hG _ hc).1, ok _ (by simp [wsV]), ⟨hd.1, hd.2.1⟩, fun sig h => ?_, ok _ (by simp [wsV]), ok _ (by simp [wsV]), ok _ (by simp [wsV])⟩
  have h2 := hd.2.2
  rw [h] at h2
  exact (Option.some.inj h2).symm
theorem vx_runVW {y : MethodName} {bytes cc : ByteArray} {maxL nL mc ms n index : Nat} {ret : Option FieldType} {hh : List (Nat × Nat × Nat × Nat)} {ws : List Cond} {rm : Room} {Pc : Array Value → State → Prop} {Qc : Array Value → State → Outcome → State → Prop} {free : Addr → Prop} {Ts : List Cond} {own C : String} {b : Addr} {As rest : List Value} {g : JFrame}
    (S : CallFix p m c cc nL s args Ts own) (hM : Met l y ws rm Pc Qc mc ms free) (cw : vx_CVW R s args own C index y bytes maxL ret hh ws rm mc ms n) (hp : PreV s H C b Pc As)
    (hg : g.method = m) (hn : As.length = n) (hsize : g.locals.size = nL) (hstack : g.stack = As.reverse ++ .ref b :: rest) (hW : 2 * g.monitorRoom + (rest.map fun v => v.category).sum ≤ 8) (hdg : decode cc g.pc = .ok (.invokevirtual index, 3)) (hf : cells + mc ≤ R.cells ∧ slots + ms ≤ R.slots) :
    va_Run p l e R s m args below meth c H locs cells slots mc ms g rest (Qc (Value.ref b :: As).toArray) free := by
  obtain ⟨⟨hrc, hrs, hfr, hlo, hws, hcw⟩, hcode, hini, hy, hlen, hl, hin, hse⟩ := cw
  have hK : Back l R p e below s args y 3 8 (PreOf R mc ms Pc) (PostOf Qc mc ms free) := va_backW (hh := hh) (bytes := bytes) (maxL := maxL) (ret := ret) hM hp.1 hrc hrs hfr hlo hws hcw (fun a' U hW => word_at hW (Or.inl (by first | rfl | simp [Cond.onTables, Cond.keeps, Cond.steady])) hini)
  obtain ⟨hx, hb, hml, ho, -⟩ := S
  obtain ⟨-, ⟨cellB, hcB, hoB, hclB⟩, hPc⟩ := hp
  intro T hT X
  obtain ⟨v, vm₁, ⟨U', l2, c2, s2⟩, hW₁, X', ⟨g', mk, t, L, e1, e2, hq, h1, hL, h2, h3⟩, st⟩ := vx_callVW X hx (C := C) (hh := hh) (bytes := bytes) (maxL := maxL) (ret := ret) ho hl hin hse hcode hy hK (by rw [hT]; exact hcB) hoB hclB hg (hsize.trans hml.symm) (argsL := As) (rest := rest) (fun sig h => hn.trans (hlen sig h)) hstack hW (by rw [hb]; exact hdg)
    (fun vm₁ hW₁ => ⟨hf.1, hf.2, hPc (T.setVm vm₁) hT hW₁⟩)
  dsimp only [Pt.U, Pt.locs, Pt.cells, Pt.slots] at X' e1 e2 h1 h2 h3 st
  subst h1; subst h2; subst h3
  exact ⟨v, (T.setVm vm₁).calling g' mk (Value.ref b :: As).toArray, t, U', L, hT, X', hL, e1, e2, hq, st⟩
section
variable {y : MethodName} {bytes cc : ByteArray} {maxL nL mc ms n index : Nat} {ret : Option FieldType} {ws : List Cond} {rm : Room} {Pc : Array Value → State → Prop} {Qc : Array Value → State → Outcome → State → Prop} {XC : String → State → State → Prop} {free : Addr → Prop} {Ts : List Cond} {own C : String} {b : Addr} {As rest : List Value} {g : JFrame}
theorem vx_runVX {hh : List (Nat × Nat × Nat × Nat)} (S : CallFix p m c cc nL s args Ts own) (hM : vx_Met l y ws rm Pc Qc XC mc ms free) (cw : vx_CVW R s args own C index y bytes maxL ret hh ws rm mc ms n) (hp : PreV s H C b Pc As)
    (hg : g.method = m) (hn : As.length = n) (hsize : g.locals.size = nL) (hstack : g.stack = As.reverse ++ .ref b :: rest) (hW : 2 * g.monitorRoom + (rest.map fun v => v.category).sum ≤ 8) (hdg : decode cc g.pc = .ok (.invokevirtual index, 3)) (hf : cells + mc ≤ R.cells ∧ slots + ms ≤ R.slots) :
    vx_Run p l e R s m args below meth c H locs cells slots mc ms g rest (Qc (Value.ref b :: As).toArray) XC free := by
  obtain ⟨⟨hrc, hrs, hfr, hlo, hws, hcw⟩, hcode, hini, hy, hlen, hl, hin, hse⟩ := cw
  have hK : vx_Back l R p e below s args y 3 8 (PreOf R mc ms Pc) (PostOf Qc mc ms free) (vx_Post XC mc ms free) := vx_backW (hh := hh) (bytes := bytes) (maxL := maxL) (ret := ret) hM hp.1 hrc hrs hfr hlo hws hcw (fun a' U hW => word_at hW (Or.inl (by first | rfl | simp [Cond.onTables, Cond.keeps, Cond.steady])) hini)
  obtain ⟨hx, hb, hml, ho, -⟩ := S
  obtain ⟨-, ⟨cellB, hcB, hoB, hclB⟩, hPc⟩ := hp
  intro T hT X
  rcases vx_callVX X hx (C := C) (hh := hh) (bytes := bytes) (maxL := maxL) (ret := ret) ho hl hin hse hcode hy hK (by rw [hT]; exact hcB) hoB hclB hg (hsize.trans hml.symm) (argsL := As) (rest := rest) (fun sig h => hn.trans (hlen sig h)) hstack hW (by rw [hb]; exact hdg)
    (fun vm₁ hW₁ => ⟨hf.1, hf.2, hPc (T.setVm vm₁) hT hW₁⟩) with ⟨v, vm₁, ⟨U', l2, c2, s2⟩, hW₁, X', ⟨g', mk, t, L, e1, e2, hq, h1, hL, h2, h3⟩, st⟩ | ⟨q, vm₁, ⟨U', l2, c2, s2⟩, hW₁, X', ⟨g', mk, t, L, E, ce, e1, e2, hq, hce, hcv, hcl, h1, hL, h2, h3⟩, st⟩
  · dsimp only [Pt.U, Pt.locs, Pt.cells, Pt.slots] at X' e1 e2 h1 h2 h3 st
    subst h1; subst h2; subst h3
    exact Or.inl ⟨v, (T.setVm vm₁).calling g' mk (Value.ref b :: As).toArray, t, U', L, hT, X', hL, e1, e2, hq, st⟩
  · dsimp only [Pt.U, Pt.locs, Pt.cells, Pt.slots] at X' e1 e2 h1 h2 h3 st hcl
    subst h1; subst h2; subst h3
    exact Or.inr ⟨q, (T.setVm vm₁).calling g' mk (Value.ref b :: As).toArray, t, U', L, E, ce, hT, X', hL, e1, e2, hq, hce, hcv, vx_cls hW₁ hcl, st⟩
theorem vx_runSX {hh : List (Nat × Nat × Nat × Nat)} (S : CallFix p m c cc nL s args Ts own) (hM : vx_Met l y ws rm Pc Qc XC mc ms free) (cw : vx_CSW R s args own index y bytes maxL ret hh ws rm mc ms n) (hp : PreS s H Pc As)
    (hg : g.method = m) (hn : As.length = n) (hsize : g.locals.size = nL) (hstack : g.stack = As.reverse ++ rest) (hW : 2 * g.monitorRoom + (rest.map fun v => v.category).sum ≤ 8) (hdg : decode cc g.pc = .ok (.invokestatic index, 3)) (hf : cells + mc ≤ R.cells ∧ slots + ms ≤ R.slots) :
    vx_Run p l e R s m args below meth c H locs cells slots mc ms g rest (Qc As.toArray) XC free := by
  obtain ⟨⟨hrc, hrs, hfr, hlo, hws, hcw⟩, hcode, hini, hy, hlen, hl, hstt⟩ := cw
  have hK : vx_Back l R p e below s args y 3 8 (PreOf R mc ms Pc) (PostOf Qc mc ms free) (vx_Post XC mc ms free) := vx_backW (hh := hh) (bytes := bytes) (maxL := maxL) (ret := ret) hM hp.1 hrc hrs hfr hlo hws hcw (fun a' U hW => word_at hW (Or.inl (by first | rfl | simp [Cond.onTables, Cond.keeps, Cond.steady])) hini)
  obtain ⟨hx, hb, hml, ho, -⟩ := S
  intro T hT X
  rcases vx_callSX X hx (hh := hh) (bytes := bytes) (maxL := maxL) (ret := ret) ho hl hstt hini hcode hy hK hg (hsize.trans hml.symm) (argsL := As) (rest := rest) (fun sig h => hn.trans (hlen sig h)) hstack hW (by rw [hb]; exact hdg)
    (fun vm₁ hW₁ => ⟨hf.1, hf.2, hp.2 (T.setVm vm₁) hT hW₁⟩) with ⟨v, vm₁, ⟨U', l2, c2, s2⟩, hW₁, X', ⟨g', mk, t, L, e1, e2, hq, h1, hL, h2, h3⟩, st⟩ | ⟨q, vm₁, ⟨U', l2, c2, s2⟩, hW₁, X', ⟨g', mk, t, L, E, ce, e1, e2, hq, hce, hcv, hcl, h1, hL, h2, h3⟩, st⟩
  · dsimp only [Pt.U, Pt.locs, Pt.cells, Pt.slots] at X' e1 e2 h1 h2 h3 st
    subst h1; subst h2; subst h3
    exact Or.inl ⟨v, (T.setVm vm₁).calling g' mk As.toArray, t, U', L, hT, X', hL, e1, e2, hq, st⟩
  · dsimp only [Pt.U, Pt.locs, Pt.cells, Pt.slots] at X' e1 e2 h1 h2 h3 st hcl
    subst h1; subst h2; subst h3
    exact Or.inr ⟨q, (T.setVm vm₁).calling g' mk As.toArray, t, U', L, E, ce, hT, X', hL, e1, e2, hq, hce, hcv, vx_cls hW₁ hcl, st⟩
end
end VXH
theorem vx_ofWH {l : Launch} {y : MethodName} {ws ws' : List Cond} {rm : Room} {Pc : Array Value → State → Prop} {Qc : Array Value → State → Outcome → State → Prop} {XC : String → State → State → Prop} {mc ms : Nat} {free : Addr → Prop} {cc : ByteArray} {maxL : Nat} {ret : Option FieldType} {hh : List (Nat × Nat × Nat × Nat)}
    (hy : plainName y.cls = true) (hw : ws = Cond.codeWith y cc maxL ret hh :: ws')
    (body : ∀ p e s m args below meth c s₁, BodyLoose p l y (headSpec ws rm) cc maxL ret e s m args below meth c s₁ → c.maxLocals = maxL → Pc args s →
      W p l e (headSpec ws rm).room s m args below meth c s.heap [] 0 0 (vx_MQ below Qc XC args s mc ms free) (entryFrame m args maxL)) : vx_Met l y ws rm Pc Qc XC mc ms free := by
  refine MetFree.of_bodyS (code := cc) (maxLocals := maxL) (ret := ret) hy ?_ ?_
  · intro args s m h hn
    obtain ⟨m9, meth, c, hn9, h1, h2, h3, h4, -, h5, h6, -⟩ := Cond.codeWith_spec (atoms_spec (ws := ws) h _ (by rw [hw]; exact List.mem_cons_self))
    cases hn.symm.trans hn9
    exact ⟨meth, c, h1, h2, h3, h4, h5, h6⟩
  · intro p e s m args below meth c s₁ B hml hP _
    have hh0 : s₁.heap = s.heap := by rw [B.state]; rfl
    obtain ⟨t, a1, o, b1, b2, b3⟩ := body p e s m args below meth c s₁ B hml hP s₁ hh0 (Stand.of_body B)
    exact ⟨t, o, a1, b1, b2, b3⟩
/-! ===== END ===== -/
end
section
/-! ===== BEGIN printed: names, fields, word lists, decode rows ===== -/
def RX0 : String := "Twicebook$Page"
def TX0 : u_T := fun k => match k with
  | 0 => ("Twicebook$Page", "coming", "LTwicebook$Row;", true)
  | 1 => ("Twicebook$Page", "asking", "LTwicebook$Row;", true)
  | 2 => ("Twicebook$Page", "most", "I", false)
  | _ => ("Twicebook$Page", "eldestBy", "C", false)
def tyX0 : Nat → FieldType := fun k => match k with
  | 0 => .object "Twicebook$Row"
  | 1 => .object "Twicebook$Row"
  | 2 => .int
  | _ => .char
abbrev wsX00 : List Cond := u_ws RX0 TX0 4
theorem nmX0 : ∀ a, a < 4 → ∀ b, b < 4 → a ≠ b → (TX0 a).2.1 ≠ (TX0 b).2.1 := by decide +kernel
theorem tyX0_ok : ∀ k, k < 4 → parseFieldDescriptor (TX0 k).2.2.1 = some (tyX0 k) := by decide +kernel
abbrev cX0_init : ByteArray := prog_2_method_1_code
def yX0_init : MethodName := ⟨RX0, "<init>", "()V"⟩
abbrev cX0_row : ByteArray := prog_2_method_2_code
def yX0_row : MethodName := ⟨RX0, "row", "(C)LTwicebook$Row;"⟩
abbrev cX0_holds : ByteArray := prog_2_method_3_code
def yX0_holds : MethodName := ⟨RX0, "holds", "(I)Z"⟩
abbrev cX0_valueOf : ByteArray := prog_2_method_4_code
def yX0_valueOf : MethodName := ⟨RX0, "valueOf", "(I)I"⟩
abbrev cX0_giveKey : ByteArray := prog_2_method_5_code
def yX0_giveKey : MethodName := ⟨RX0, "giveKey", "(II)V"⟩
abbrev cX0_touch : ByteArray := prog_2_method_6_code
def yX0_touch : MethodName := ⟨RX0, "touch", "(I)V"⟩
abbrev cX0_takeOut : ByteArray := prog_2_method_7_code
def yX0_takeOut : MethodName := ⟨RX0, "takeOut", "(I)V"⟩
abbrev cX0_letIn : ByteArray := prog_2_method_8_code
def yX0_letIn : MethodName := ⟨RX0, "letIn", "(II)I"⟩
abbrev cX0_dropWhatIsOver : ByteArray := prog_2_method_9_code
def yX0_dropWhatIsOver : MethodName := ⟨RX0, "dropWhatIsOver", "()I"⟩
abbrev cX0_dropEldest : ByteArray := prog_2_method_10_code
def yX0_dropEldest : MethodName := ⟨RX0, "dropEldest", "()I"⟩
abbrev cX0_takeOutEach : ByteArray := prog_2_method_11_code
def yX0_takeOutEach : MethodName := ⟨RX0, "takeOutEach", "(CI)I"⟩
abbrev cX0_staying : ByteArray := prog_2_method_12_code
def yX0_staying : MethodName := ⟨RX0, "staying", "()I"⟩
abbrev cX0_crossedPairs : ByteArray := prog_2_method_13_code
def yX0_crossedPairs : MethodName := ⟨RX0, "crossedPairs", "()I"⟩
abbrev cX0_become : ByteArray := prog_2_method_14_code
def yX0_become : MethodName := ⟨RX0, "become", "(LTwicebook$Page;)V"⟩
def RX1 : String := "Twicebook$Past"
def TX1 : u_T := fun k => match k with
  | 0 => ("Twicebook$Past", "pages", "[LTwicebook$Page;", true)
  | 1 => ("Twicebook$Past", "free", "I", false)
  | _ => ("Twicebook$Past", "kept", "I", false)
def tyX1 : Nat → FieldType := fun k => match k with
  | 0 => .array (.object "Twicebook$Page")
  | 1 => .int
  | _ => .int
abbrev wsX10 : List Cond := u_ws RX1 TX1 3
theorem nmX1 : ∀ a, a < 3 → ∀ b, b < 3 → a ≠ b → (TX1 a).2.1 ≠ (TX1 b).2.1 := by decide +kernel
theorem tyX1_ok : ∀ k, k < 3 → parseFieldDescriptor (TX1 k).2.2.1 = some (tyX1 k) := by decide +kernel
abbrev cX1_init : ByteArray := prog_3_method_1_code
def yX1_init : MethodName := ⟨RX1, "<init>", "()V"⟩
abbrev cX1_kept : ByteArray := prog_3_method_2_code
def yX1_kept : MethodName := ⟨RX1, "kept", "()I"⟩
abbrev cX1_keep : ByteArray := prog_3_method_3_code
def yX1_keep : MethodName := ⟨RX1, "keep", "(LTwicebook$Page;)V"⟩
abbrev cX1_bringBack : ByteArray := prog_3_method_4_code
def yX1_bringBack : MethodName := ⟨RX1, "bringBack", "(LTwicebook$Page;)V"⟩
def RX2 : String := "Twicebook$Row"
def TX2 : u_T := fun k => match k with
  | 0 => ("Twicebook$Row", "keys", "[I", true)
  | 1 => ("Twicebook$Row", "values", "[I", true)
  | _ => ("Twicebook$Row", "count", "I", false)
def tyX2 : Nat → FieldType := fun k => match k with
  | 0 => .array .int
  | 1 => .array .int
  | _ => .int
abbrev wsX20 : List Cond := u_ws RX2 TX2 3
theorem nmX2 : ∀ a, a < 3 → ∀ b, b < 3 → a ≠ b → (TX2 a).2.1 ≠ (TX2 b).2.1 := by decide +kernel
theorem tyX2_ok : ∀ k, k < 3 → parseFieldDescriptor (TX2 k).2.2.1 = some (tyX2 k) := by decide +kernel
abbrev cX2_init : ByteArray := prog_4_method_1_code
def yX2_init : MethodName := ⟨RX2, "<init>", "()V"⟩
abbrev cX2_count : ByteArray := prog_4_method_2_code
def yX2_count : MethodName := ⟨RX2, "count", "()I"⟩
abbrev cX2_holdsPlace : ByteArray := prog_4_method_3_code
def yX2_holdsPlace : MethodName := ⟨RX2, "holdsPlace", "(I)Z"⟩
abbrev cX2_keyIn : ByteArray := prog_4_method_4_code
def yX2_keyIn : MethodName := ⟨RX2, "keyIn", "(I)I"⟩
abbrev cX2_valueIn : ByteArray := prog_4_method_5_code
def yX2_valueIn : MethodName := ⟨RX2, "valueIn", "(I)I"⟩
abbrev cX2_find : ByteArray := prog_4_method_6_code
def yX2_find : MethodName := ⟨RX2, "find", "(I)I"⟩
abbrev cX2_give : ByteArray := prog_4_method_7_code
def yX2_give : MethodName := ⟨RX2, "give", "(II)V"⟩
abbrev cX2_append : ByteArray := prog_4_method_8_code
def yX2_append : MethodName := ⟨RX2, "append", "(II)V"⟩
abbrev cX2_close : ByteArray := prog_4_method_9_code
def yX2_close : MethodName := ⟨RX2, "close", "(I)V"⟩
abbrev cX2_putLast : ByteArray := prog_4_method_10_code
def yX2_putLast : MethodName := ⟨RX2, "putLast", "(I)V"⟩
abbrev cX2_become : ByteArray := prog_4_method_11_code
def yX2_become : MethodName := ⟨RX2, "become", "(LTwicebook$Row;)V"⟩
abbrev cX2_tellsAlike : ByteArray := prog_4_method_12_code
def yX2_tellsAlike : MethodName := ⟨RX2, "tellsAlike", "()Z"⟩
abbrev cX2_hasEntriesOf : ByteArray := prog_4_method_13_code
def yX2_hasEntriesOf : MethodName := ⟨RX2, "hasEntriesOf", "(LTwicebook$Row;)Z"⟩
abbrev cX2_sameAs : ByteArray := prog_4_method_14_code
def yX2_sameAs : MethodName := ⟨RX2, "sameAs", "(LTwicebook$Row;)Z"⟩
def RX3 : String := "Twicebook$Tour"
def TX3 : u_T := fun k => match k with
  | 0 => ("Twicebook$Tour", "on", "Z", false)
  | 1 => ("Twicebook$Tour", "order", "C", false)
  | 2 => ("Twicebook$Tour", "nextPlace", "I", false)
  | _ => ("Twicebook$Tour", "mayCut", "Z", false)
def tyX3 : Nat → FieldType := fun k => match k with
  | 0 => .boolean
  | 1 => .char
  | 2 => .int
  | _ => .boolean
abbrev wsX30 : List Cond := u_ws RX3 TX3 4
theorem nmX3 : ∀ a, a < 4 → ∀ b, b < 4 → a ≠ b → (TX3 a).2.1 ≠ (TX3 b).2.1 := by decide +kernel
theorem tyX3_ok : ∀ k, k < 4 → parseFieldDescriptor (TX3 k).2.2.1 = some (tyX3 k) := by decide +kernel
abbrev cX3_init : ByteArray := prog_5_method_1_code
def yX3_init : MethodName := ⟨RX3, "<init>", "()V"⟩
abbrev cX3_begin : ByteArray := prog_5_method_2_code
def yX3_begin : MethodName := ⟨RX3, "begin", "(C)V"⟩
abbrev cX3_end : ByteArray := prog_5_method_3_code
def yX3_end : MethodName := ⟨RX3, "end", "()V"⟩
abbrev cX3_isOn : ByteArray := prog_5_method_4_code
def yX3_isOn : MethodName := ⟨RX3, "isOn", "()Z"⟩
abbrev cX3_order : ByteArray := prog_5_method_5_code
def yX3_order : MethodName := ⟨RX3, "order", "()C"⟩
abbrev cX3_nextPlace : ByteArray := prog_5_method_6_code
def yX3_nextPlace : MethodName := ⟨RX3, "nextPlace", "()I"⟩
abbrev cX3_mayCut : ByteArray := prog_5_method_7_code
def yX3_mayCut : MethodName := ⟨RX3, "mayCut", "()Z"⟩
abbrev cX3_goOver : ByteArray := prog_5_method_8_code
def yX3_goOver : MethodName := ⟨RX3, "goOver", "()V"⟩
abbrev cX3_goBack : ByteArray := prog_5_method_9_code
def yX3_goBack : MethodName := ⟨RX3, "goBack", "()V"⟩
def RX4 : String := "Twicebook"
def TX4 : u_T := fun k => match k with
  | 0 => ("Twicebook", "book", "LTwicebook$Page;", true)
  | 1 => ("Twicebook", "past", "LTwicebook$Past;", true)
  | 2 => ("Twicebook", "tour", "LTwicebook$Tour;", true)
  | _ => ("Twicebook", "trial", "LTwicebook$Row;", true)
def tyX4 : Nat → FieldType := fun k => match k with
  | 0 => .object "Twicebook$Page"
  | 1 => .object "Twicebook$Past"
  | 2 => .object "Twicebook$Tour"
  | _ => .object "Twicebook$Row"
abbrev wsX40 : List Cond := u_ws RX4 TX4 4
theorem nmX4 : ∀ a, a < 4 → ∀ b, b < 4 → a ≠ b → (TX4 a).2.1 ≠ (TX4 b).2.1 := by decide +kernel
theorem tyX4_ok : ∀ k, k < 4 → parseFieldDescriptor (TX4 k).2.2.1 = some (tyX4 k) := by decide +kernel
abbrev cX4_init : ByteArray := prog_1_method_1_code
def yX4_init : MethodName := ⟨RX4, "<init>", "()V"⟩
abbrev cX4_put : ByteArray := prog_1_method_2_code
def yX4_put : MethodName := ⟨RX4, "put", "(II)I"⟩
abbrev cX4_putIfAbsent : ByteArray := prog_1_method_3_code
def yX4_putIfAbsent : MethodName := ⟨RX4, "putIfAbsent", "(II)Z"⟩
abbrev cX4_get : ByteArray := prog_1_method_4_code
def yX4_get : MethodName := ⟨RX4, "get", "(I)I"⟩
abbrev cX4_getOr : ByteArray := prog_1_method_5_code
def yX4_getOr : MethodName := ⟨RX4, "getOr", "(II)I"⟩
abbrev cX4_replace : ByteArray := prog_1_method_6_code
def yX4_replace : MethodName := ⟨RX4, "replace", "(II)Z"⟩
abbrev cX4_replaceIf : ByteArray := prog_1_method_7_code
def yX4_replaceIf : MethodName := ⟨RX4, "replaceIf", "(III)Z"⟩
abbrev cX4_look : ByteArray := prog_1_method_8_code
def yX4_look : MethodName := ⟨RX4, "look", "(I)I"⟩
abbrev cX4_has : ByteArray := prog_1_method_9_code
def yX4_has : MethodName := ⟨RX4, "has", "(I)Z"⟩
abbrev cX4_remove : ByteArray := prog_1_method_10_code
def yX4_remove : MethodName := ⟨RX4, "remove", "(I)I"⟩
abbrev cX4_size : ByteArray := prog_1_method_11_code
def yX4_size : MethodName := ⟨RX4, "size", "()I"⟩
abbrev cX4_limit : ByteArray := prog_1_method_12_code
def yX4_limit : MethodName := ⟨RX4, "limit", "(I)I"⟩
abbrev cX4_way : ByteArray := prog_1_method_13_code
def yX4_way : MethodName := ⟨RX4, "way", "(C)C"⟩
abbrev cX4_keyAt : ByteArray := prog_1_method_14_code
def yX4_keyAt : MethodName := ⟨RX4, "keyAt", "(CI)I"⟩
abbrev cX4_placeOf : ByteArray := prog_1_method_15_code
def yX4_placeOf : MethodName := ⟨RX4, "placeOf", "(CI)I"⟩
abbrev cX4_setAt : ByteArray := prog_1_method_16_code
def yX4_setAt : MethodName := ⟨RX4, "setAt", "(CII)I"⟩
abbrev cX4_removeAt : ByteArray := prog_1_method_17_code
def yX4_removeAt : MethodName := ⟨RX4, "removeAt", "(CI)I"⟩
abbrev cX4_thin : ByteArray := prog_1_method_18_code
def yX4_thin : MethodName := ⟨RX4, "thin", "(CI)I"⟩
abbrev cX4_walk : ByteArray := prog_1_method_19_code
def yX4_walk : MethodName := ⟨RX4, "walk", "(C)I"⟩
abbrev cX4_step : ByteArray := prog_1_method_20_code
def yX4_step : MethodName := ⟨RX4, "step", "()I"⟩
abbrev cX4_cut : ByteArray := prog_1_method_21_code
def yX4_cut : MethodName := ⟨RX4, "cut", "()I"⟩
abbrev cX4_moves : ByteArray := prog_1_method_22_code
def yX4_moves : MethodName := ⟨RX4, "moves", "()I"⟩
abbrev cX4_move : ByteArray := prog_1_method_23_code
def yX4_move : MethodName := ⟨RX4, "move", "(I)I"⟩
abbrev cX4_crossings : ByteArray := prog_1_method_24_code
def yX4_crossings : MethodName := ⟨RX4, "crossings", "()I"⟩
abbrev cX4_undo : ByteArray := prog_1_method_25_code
def yX4_undo : MethodName := ⟨RX4, "undo", "()I"⟩
abbrev cX4_isTrue : ByteArray := prog_1_method_26_code
def yX4_isTrue : MethodName := ⟨RX4, "isTrue", "()Z"⟩
abbrev cX4_checksum : ByteArray := prog_1_method_27_code
def yX4_checksum : MethodName := ⟨RX4, "checksum", "()J"⟩
abbrev cX4_beginChange : ByteArray := prog_1_method_28_code
def yX4_beginChange : MethodName := ⟨RX4, "beginChange", "()V"⟩
abbrev cX4_movesGiveAsking : ByteArray := prog_1_method_29_code
def yX4_movesGiveAsking : MethodName := ⟨RX4, "movesGiveAsking", "()Z"⟩
abbrev cX4_refuseKeyOutOfRange : ByteArray := prog_1_method_30_code
def yX4_refuseKeyOutOfRange : MethodName := ⟨RX4, "refuseKeyOutOfRange", "(I)V"⟩
abbrev cX4_refuseAbsentKey : ByteArray := prog_1_method_31_code
def yX4_refuseAbsentKey : MethodName := ⟨RX4, "refuseAbsentKey", "(I)V"⟩
abbrev cX4_refuseUnknownOrder : ByteArray := prog_1_method_32_code
def yX4_refuseUnknownOrder : MethodName := ⟨RX4, "refuseUnknownOrder", "(C)V"⟩
abbrev cX4_refuseUnknownPlace : ByteArray := prog_1_method_33_code
def yX4_refuseUnknownPlace : MethodName := ⟨RX4, "refuseUnknownPlace", "(I)V"⟩
def RX5 : String := "TwicebookModel"
def TX5 : u_T := fun k => match k with
  | 0 => ("TwicebookModel", "come", "[I", true)
  | 1 => ("TwicebookModel", "values", "[I", true)
  | 2 => ("TwicebookModel", "ask", "[I", true)
  | 3 => ("TwicebookModel", "size", "I", false)
  | 4 => ("TwicebookModel", "limit", "I", false)
  | 5 => ("TwicebookModel", "way", "C", false)
  | 6 => ("TwicebookModel", "comes", "[[I", true)
  | 7 => ("TwicebookModel", "valueRows", "[[I", true)
  | 8 => ("TwicebookModel", "asks", "[[I", true)
  | 9 => ("TwicebookModel", "sizes", "[I", true)
  | 10 => ("TwicebookModel", "limits", "[I", true)
  | 11 => ("TwicebookModel", "ways", "[C", true)
  | 12 => ("TwicebookModel", "kept", "I", false)
  | 13 => ("TwicebookModel", "isWalk", "Z", false)
  | 14 => ("TwicebookModel", "path", "[I", true)
  | 15 => ("TwicebookModel", "pathSize", "I", false)
  | 16 => ("TwicebookModel", "next", "I", false)
  | 17 => ("TwicebookModel", "last", "I", false)
  | _ => ("TwicebookModel", "thrown", "I", false)
def tyX5 : Nat → FieldType := fun k => match k with
  | 0 => .array .int
  | 1 => .array .int
  | 2 => .array .int
  | 3 => .int
  | 4 => .int
  | 5 => .char
  | 6 => .array (.array .int)
  | 7 => .array (.array .int)
  | 8 => .array (.array .int)
  | 9 => .array .int
  | 10 => .array .int
  | 11 => .array .char
  | 12 => .int
  | 13 => .boolean
  | 14 => .array .int
  | 15 => .int
  | 16 => .int
  | 17 => .int
  | _ => .int
abbrev wsX50 : List Cond := u_ws RX5 TX5 19
theorem nmX5 : ∀ a, a < 19 → ∀ b, b < 19 → a ≠ b → (TX5 a).2.1 ≠ (TX5 b).2.1 := by decide +kernel
theorem tyX5_ok : ∀ k, k < 19 → parseFieldDescriptor (TX5 k).2.2.1 = some (tyX5 k) := by decide +kernel
abbrev cX5_init : ByteArray := prog_7_method_1_code
def yX5_init : MethodName := ⟨RX5, "<init>", "()V"⟩
abbrev cX5_thrown : ByteArray := prog_7_method_2_code
def yX5_thrown : MethodName := ⟨RX5, "thrown", "()I"⟩
abbrev cX5_no : ByteArray := prog_7_method_3_code
def yX5_no : MethodName := ⟨RX5, "no", "(ZI)Z"⟩
abbrev cX5_isOrder : ByteArray := prog_7_method_4_code
def yX5_isOrder : MethodName := ⟨RX5, "isOrder", "(C)Z"⟩
abbrev cX5_in : ByteArray := prog_7_method_5_code
def yX5_in : MethodName := ⟨RX5, "in", "(III)Z"⟩
abbrev cX5_row : ByteArray := prog_7_method_6_code
def yX5_row : MethodName := ⟨RX5, "row", "(C)[I"⟩
abbrev cX5_place : ByteArray := prog_7_method_7_code
def yX5_place : MethodName := ⟨RX5, "place", "([II)I"⟩
abbrev cX5_copied : ByteArray := prog_7_method_8_code
def yX5_copied : MethodName := ⟨RX5, "copied", "([I[I)V"⟩
abbrev cX5_moved : ByteArray := prog_7_method_9_code
def yX5_moved : MethodName := ⟨RX5, "moved", "(II)V"⟩
abbrev cX5_keeps : ByteArray := prog_7_method_10_code
def yX5_keeps : MethodName := ⟨RX5, "keeps", "()V"⟩
abbrev cX5_changes : ByteArray := prog_7_method_11_code
def yX5_changes : MethodName := ⟨RX5, "changes", "()V"⟩
abbrev cX5_touched : ByteArray := prog_7_method_12_code
def yX5_touched : MethodName := ⟨RX5, "touched", "(I)V"⟩
abbrev cX5_out : ByteArray := prog_7_method_13_code
def yX5_out : MethodName := ⟨RX5, "out", "(I)V"⟩
abbrev cX5_comesIn : ByteArray := prog_7_method_14_code
def yX5_comesIn : MethodName := ⟨RX5, "comesIn", "(II)I"⟩
abbrev cX5_put : ByteArray := prog_7_method_15_code
def yX5_put : MethodName := ⟨RX5, "put", "(II)I"⟩
abbrev cX5_putIfAbsent : ByteArray := prog_7_method_16_code
def yX5_putIfAbsent : MethodName := ⟨RX5, "putIfAbsent", "(II)Z"⟩
abbrev cX5_get : ByteArray := prog_7_method_17_code
def yX5_get : MethodName := ⟨RX5, "get", "(I)I"⟩
abbrev cX5_getOr : ByteArray := prog_7_method_18_code
def yX5_getOr : MethodName := ⟨RX5, "getOr", "(II)I"⟩
abbrev cX5_replace : ByteArray := prog_7_method_19_code
def yX5_replace : MethodName := ⟨RX5, "replace", "(II)Z"⟩
abbrev cX5_replaceIf : ByteArray := prog_7_method_20_code
def yX5_replaceIf : MethodName := ⟨RX5, "replaceIf", "(III)Z"⟩
abbrev cX5_look : ByteArray := prog_7_method_21_code
def yX5_look : MethodName := ⟨RX5, "look", "(I)I"⟩
abbrev cX5_has : ByteArray := prog_7_method_22_code
def yX5_has : MethodName := ⟨RX5, "has", "(I)Z"⟩
abbrev cX5_remove : ByteArray := prog_7_method_23_code
def yX5_remove : MethodName := ⟨RX5, "remove", "(I)I"⟩
abbrev cX5_size : ByteArray := prog_7_method_24_code
def yX5_size : MethodName := ⟨RX5, "size", "()I"⟩
abbrev cX5_limit : ByteArray := prog_7_method_25_code
def yX5_limit : MethodName := ⟨RX5, "limit", "(I)I"⟩
abbrev cX5_way : ByteArray := prog_7_method_26_code
def yX5_way : MethodName := ⟨RX5, "way", "(C)C"⟩
abbrev cX5_keyAt : ByteArray := prog_7_method_27_code
def yX5_keyAt : MethodName := ⟨RX5, "keyAt", "(CI)I"⟩
abbrev cX5_placeOf : ByteArray := prog_7_method_28_code
def yX5_placeOf : MethodName := ⟨RX5, "placeOf", "(CI)I"⟩
abbrev cX5_setAt : ByteArray := prog_7_method_29_code
def yX5_setAt : MethodName := ⟨RX5, "setAt", "(CII)I"⟩
abbrev cX5_removeAt : ByteArray := prog_7_method_30_code
def yX5_removeAt : MethodName := ⟨RX5, "removeAt", "(CI)I"⟩
abbrev cX5_thin : ByteArray := prog_7_method_31_code
def yX5_thin : MethodName := ⟨RX5, "thin", "(CI)I"⟩
abbrev cX5_walk : ByteArray := prog_7_method_32_code
def yX5_walk : MethodName := ⟨RX5, "walk", "(C)I"⟩
abbrev cX5_step : ByteArray := prog_7_method_33_code
def yX5_step : MethodName := ⟨RX5, "step", "()I"⟩
abbrev cX5_cut : ByteArray := prog_7_method_34_code
def yX5_cut : MethodName := ⟨RX5, "cut", "()I"⟩
abbrev cX5_staying : ByteArray := prog_7_method_35_code
def yX5_staying : MethodName := ⟨RX5, "staying", "()I"⟩
abbrev cX5_moves : ByteArray := prog_7_method_36_code
def yX5_moves : MethodName := ⟨RX5, "moves", "()I"⟩
abbrev cX5_move : ByteArray := prog_7_method_37_code
def yX5_move : MethodName := ⟨RX5, "move", "(I)I"⟩
abbrev cX5_crossings : ByteArray := prog_7_method_38_code
def yX5_crossings : MethodName := ⟨RX5, "crossings", "()I"⟩
abbrev cX5_undo : ByteArray := prog_7_method_39_code
def yX5_undo : MethodName := ⟨RX5, "undo", "()I"⟩
abbrev cX5_isTrue : ByteArray := prog_7_method_40_code
def yX5_isTrue : MethodName := ⟨RX5, "isTrue", "()Z"⟩
abbrev cX5_checksum : ByteArray := prog_7_method_41_code
def yX5_checksum : MethodName := ⟨RX5, "checksum", "()J"⟩
def RJx145de : String := "java/io/Serializable"
def TJx145de : u_T := fun k => match k with
  | _ => ("", "", "", false)
def tyJx145de : Nat → FieldType := fun k => match k with
  | _ => .int
abbrev wsJx145de0 : List Cond := u_ws RJx145de TJx145de 0
theorem nmJx145de : ∀ a, a < 0 → ∀ b, b < 0 → a ≠ b → (TJx145de a).2.1 ≠ (TJx145de b).2.1 := by decide +kernel
theorem tyJx145de_ok : ∀ k, k < 0 → parseFieldDescriptor (TJx145de k).2.2.1 = some (tyJx145de k) := by decide +kernel
def RJ9 : String := "java/lang/Math"
def TJ9 : u_T := fun k => match k with
  | _ => ("", "", "", false)
def tyJ9 : Nat → FieldType := fun k => match k with
  | _ => .int
abbrev wsJ90 : List Cond := u_ws RJ9 TJ9 0
theorem nmJ9 : ∀ a, a < 0 → ∀ b, b < 0 → a ≠ b → (TJ9 a).2.1 ≠ (TJ9 b).2.1 := by decide +kernel
theorem tyJ9_ok : ∀ k, k < 0 → parseFieldDescriptor (TJ9 k).2.2.1 = some (tyJ9 k) := by decide +kernel
abbrev cJ9_max_7cf53 : ByteArray := prog_13_method_65_code
def yJ9_max_7cf53 : MethodName := ⟨RJ9, "max", "(II)I"⟩
abbrev cJ9_min_7cf53 : ByteArray := prog_13_method_69_code
def yJ9_min_7cf53 : MethodName := ⟨RJ9, "min", "(II)I"⟩
def RJ0 : String := "java/lang/String"
def TJ0 : u_T := fun k => match k with
  | _ => ("", "", "", false)
def tyJ0 : Nat → FieldType := fun k => match k with
  | _ => .int
abbrev wsJ00 : List Cond := u_ws RJ0 TJ0 0
theorem nmJ0 : ∀ a, a < 0 → ∀ b, b < 0 → a ≠ b → (TJ0 a).2.1 ≠ (TJ0 b).2.1 := by decide +kernel
theorem tyJ0_ok : ∀ k, k < 0 → parseFieldDescriptor (TJ0 k).2.2.1 = some (tyJ0 k) := by decide +kernel
def RL : String := "TwicebookLaw"
abbrev cL_put : ByteArray := method_3_code
def yL_put : MethodName := ⟨RL, "put", "(LTwicebook;II[J)I"⟩
abbrev cL_putIfAbsent : ByteArray := method_4_code
def yL_putIfAbsent : MethodName := ⟨RL, "putIfAbsent", "(LTwicebook;II[J)I"⟩
abbrev cL_get : ByteArray := method_5_code
def yL_get : MethodName := ⟨RL, "get", "(LTwicebook;I[J)I"⟩
abbrev cL_look : ByteArray := method_6_code
def yL_look : MethodName := ⟨RL, "look", "(LTwicebook;I[J)I"⟩
abbrev cL_remove : ByteArray := method_7_code
def yL_remove : MethodName := ⟨RL, "remove", "(LTwicebook;I[J)I"⟩
abbrev cL_limit : ByteArray := method_8_code
def yL_limit : MethodName := ⟨RL, "limit", "(LTwicebook;I[J)I"⟩
abbrev cL_way : ByteArray := method_9_code
def yL_way : MethodName := ⟨RL, "way", "(LTwicebook;C[J)I"⟩
abbrev cL_keyAt : ByteArray := method_10_code
def yL_keyAt : MethodName := ⟨RL, "keyAt", "(LTwicebook;CI[J)I"⟩
abbrev cL_placeOf : ByteArray := method_11_code
def yL_placeOf : MethodName := ⟨RL, "placeOf", "(LTwicebook;CI[J)I"⟩
abbrev cL_setAt : ByteArray := method_12_code
def yL_setAt : MethodName := ⟨RL, "setAt", "(LTwicebook;CII[J)I"⟩
abbrev cL_removeAt : ByteArray := method_13_code
def yL_removeAt : MethodName := ⟨RL, "removeAt", "(LTwicebook;CI[J)I"⟩
abbrev cL_thin : ByteArray := method_14_code
def yL_thin : MethodName := ⟨RL, "thin", "(LTwicebook;CI[J)I"⟩
abbrev cL_walk : ByteArray := method_15_code
def yL_walk : MethodName := ⟨RL, "walk", "(LTwicebook;C[J)I"⟩
abbrev cL_step : ByteArray := method_16_code
def yL_step : MethodName := ⟨RL, "step", "(LTwicebook;[J)I"⟩
abbrev cL_cut : ByteArray := method_17_code
def yL_cut : MethodName := ⟨RL, "cut", "(LTwicebook;[J)I"⟩
abbrev cL_move : ByteArray := method_18_code
def yL_move : MethodName := ⟨RL, "move", "(LTwicebook;I[J)I"⟩
abbrev cL_undo : ByteArray := method_19_code
def yL_undo : MethodName := ⟨RL, "undo", "(LTwicebook;[J)I"⟩
abbrev cL_law : ByteArray := code
def yL_law : MethodName := ⟨RL, "law", "([I)Z"⟩
def wsX2_init : List Cond := .code yX2_init cX2_init 1 none :: ([.methodLink RX2 3 objectInit, .instanceMethod objectInit, .code objectInit ⟨#[0xb1]⟩ 1 none, .arrayClass .int, .fieldLink RX2 9 "Twicebook$Row" "keys" "[I", .fieldLink RX2 15 "Twicebook$Row" "values" "[I", .fieldLink RX2 18 "Twicebook$Row" "count" "I"] ++ wsX20)
def wsX0_init : List Cond := .code yX0_init cX0_init 1 none :: ([.methodLink RX0 3 objectInit, .instanceMethod objectInit, .code objectInit ⟨#[0xb1]⟩ 1 none, .classLink RX0 9 RX2, .instantiable RX2 3, .initialized RX2, .fieldLink RX0 12 "Twicebook$Page" "coming" "LTwicebook$Row;", .fieldLink RX0 18 "Twicebook$Page" "asking" "LTwicebook$Row;", .fieldLink RX0 21 "Twicebook$Page" "most" "I", .fieldLink RX0 25 "Twicebook$Page" "eldestBy" "C", .methodLink RX0 11 yX2_init, .instanceMethod yX2_init, .code yX2_init cX2_init 1 none, .methodLink RX2 3 objectInit, .arrayClass .int, .fieldLink RX2 9 "Twicebook$Row" "keys" "[I", .fieldLink RX2 15 "Twicebook$Row" "values" "[I", .fieldLink RX2 18 "Twicebook$Row" "count" "I"] ++ wsX20 ++ wsX00)
def wsX0_row : List Cond := .code yX0_row cX0_row 2 (some (.object "Twicebook$Row")) :: ([.fieldLink RX0 18 "Twicebook$Page" "asking" "LTwicebook$Row;", .fieldLink RX0 12 "Twicebook$Page" "coming" "LTwicebook$Row;"] ++ wsX00)
def wsX2_holdsPlace : List Cond := .code yX2_holdsPlace cX2_holdsPlace 2 (some .boolean) :: ([.fieldLink RX2 18 "Twicebook$Row" "count" "I", .fieldLink RX2 9 "Twicebook$Row" "keys" "[I"] ++ wsX20)
def wsX2_keyIn : List Cond := .code yX2_keyIn cX2_keyIn 2 (some .int) :: ([.fieldLink RX2 9 "Twicebook$Row" "keys" "[I", .methodLink RX2 22 yX2_holdsPlace, .instanceMethod yX2_holdsPlace, .selects RX2 yX2_holdsPlace yX2_holdsPlace, .initialized RX2, .code yX2_holdsPlace cX2_holdsPlace 2 (some .boolean), .fieldLink RX2 18 "Twicebook$Row" "count" "I"] ++ wsX20)
def wsX2_find : List Cond := .code yX2_find cX2_find 3 (some .int) :: ([.fieldLink RX2 18 "Twicebook$Row" "count" "I", .methodLink RX2 26 yX2_keyIn, .instanceMethod yX2_keyIn, .selects RX2 yX2_keyIn yX2_keyIn, .initialized RX2, .code yX2_keyIn cX2_keyIn 2 (some .int), .fieldLink RX2 9 "Twicebook$Row" "keys" "[I", .methodLink RX2 22 yX2_holdsPlace, .instanceMethod yX2_holdsPlace, .selects RX2 yX2_holdsPlace yX2_holdsPlace, .code yX2_holdsPlace cX2_holdsPlace 2 (some .boolean)] ++ wsX20)
def wsX0_holds : List Cond := .code yX0_holds cX0_holds 2 (some .boolean) :: ([.fieldLink RX0 12 "Twicebook$Page" "coming" "LTwicebook$Row;", .methodLink RX0 29 yX2_find, .instanceMethod yX2_find, .selects RX2 yX2_find yX2_find, .initialized RX2, .code yX2_find cX2_find 3 (some .int), .fieldLink RX2 18 "Twicebook$Row" "count" "I", .methodLink RX2 26 yX2_keyIn, .instanceMethod yX2_keyIn, .selects RX2 yX2_keyIn yX2_keyIn, .code yX2_keyIn cX2_keyIn 2 (some .int), .fieldLink RX2 9 "Twicebook$Row" "keys" "[I", .methodLink RX2 22 yX2_holdsPlace, .instanceMethod yX2_holdsPlace, .selects RX2 yX2_holdsPlace yX2_holdsPlace, .code yX2_holdsPlace cX2_holdsPlace 2 (some .boolean)] ++ wsX00 ++ wsX20)
def wsX2_valueIn : List Cond := .code yX2_valueIn cX2_valueIn 2 (some .int) :: ([.fieldLink RX2 15 "Twicebook$Row" "values" "[I", .methodLink RX2 22 yX2_holdsPlace, .instanceMethod yX2_holdsPlace, .selects RX2 yX2_holdsPlace yX2_holdsPlace, .initialized RX2, .code yX2_holdsPlace cX2_holdsPlace 2 (some .boolean), .fieldLink RX2 18 "Twicebook$Row" "count" "I", .fieldLink RX2 9 "Twicebook$Row" "keys" "[I"] ++ wsX20)
def wsX0_valueOf : List Cond := .code yX0_valueOf cX0_valueOf 2 (some .int) :: ([.fieldLink RX0 12 "Twicebook$Page" "coming" "LTwicebook$Row;", .methodLink RX0 29 yX2_find, .instanceMethod yX2_find, .selects RX2 yX2_find yX2_find, .initialized RX2, .code yX2_find cX2_find 3 (some .int), .fieldLink RX2 18 "Twicebook$Row" "count" "I", .methodLink RX2 26 yX2_keyIn, .instanceMethod yX2_keyIn, .selects RX2 yX2_keyIn yX2_keyIn, .code yX2_keyIn cX2_keyIn 2 (some .int), .fieldLink RX2 9 "Twicebook$Row" "keys" "[I", .methodLink RX2 22 yX2_holdsPlace, .instanceMethod yX2_holdsPlace, .selects RX2 yX2_holdsPlace yX2_holdsPlace, .code yX2_holdsPlace cX2_holdsPlace 2 (some .boolean), .methodLink RX0 33 yX2_valueIn, .instanceMethod yX2_valueIn, .selects RX2 yX2_valueIn yX2_valueIn, .code yX2_valueIn cX2_valueIn 2 (some .int), .fieldLink RX2 15 "Twicebook$Row" "values" "[I"] ++ wsX00 ++ wsX20)
def wsX2_give : List Cond := .code yX2_give cX2_give 3 none :: ([.fieldLink RX2 15 "Twicebook$Row" "values" "[I", .methodLink RX2 22 yX2_holdsPlace, .instanceMethod yX2_holdsPlace, .selects RX2 yX2_holdsPlace yX2_holdsPlace, .initialized RX2, .code yX2_holdsPlace cX2_holdsPlace 2 (some .boolean), .fieldLink RX2 18 "Twicebook$Row" "count" "I", .fieldLink RX2 9 "Twicebook$Row" "keys" "[I"] ++ wsX20)
def wsX0_giveKey : List Cond := .code yX0_giveKey cX0_giveKey 3 none :: ([.fieldLink RX0 12 "Twicebook$Page" "coming" "LTwicebook$Row;", .fieldLink RX0 18 "Twicebook$Page" "asking" "LTwicebook$Row;", .methodLink RX0 29 yX2_find, .instanceMethod yX2_find, .selects RX2 yX2_find yX2_find, .initialized RX2, .code yX2_find cX2_find 3 (some .int), .fieldLink RX2 18 "Twicebook$Row" "count" "I", .methodLink RX2 26 yX2_keyIn, .instanceMethod yX2_keyIn, .selects RX2 yX2_keyIn yX2_keyIn, .code yX2_keyIn cX2_keyIn 2 (some .int), .fieldLink RX2 9 "Twicebook$Row" "keys" "[I", .methodLink RX2 22 yX2_holdsPlace, .instanceMethod yX2_holdsPlace, .selects RX2 yX2_holdsPlace yX2_holdsPlace, .code yX2_holdsPlace cX2_holdsPlace 2 (some .boolean), .methodLink RX0 36 yX2_give, .instanceMethod yX2_give, .selects RX2 yX2_give yX2_give, .code yX2_give cX2_give 3 none, .fieldLink RX2 15 "Twicebook$Row" "values" "[I"] ++ wsX00 ++ wsX20)
def wsX2_close : List Cond := .code yX2_close cX2_close 3 none :: ([.fieldLink RX2 18 "Twicebook$Row" "count" "I", .fieldLink RX2 9 "Twicebook$Row" "keys" "[I", .fieldLink RX2 15 "Twicebook$Row" "values" "[I", .methodLink RX2 22 yX2_holdsPlace, .instanceMethod yX2_holdsPlace, .selects RX2 yX2_holdsPlace yX2_holdsPlace, .initialized RX2, .code yX2_holdsPlace cX2_holdsPlace 2 (some .boolean)] ++ wsX20)
def wsX2_append : List Cond := .code yX2_append cX2_append 3 none :: ([.fieldLink RX2 18 "Twicebook$Row" "count" "I", .fieldLink RX2 9 "Twicebook$Row" "keys" "[I", .fieldLink RX2 15 "Twicebook$Row" "values" "[I"] ++ wsX20)
def wsX2_putLast : List Cond := .code yX2_putLast cX2_putLast 4 none :: ([.fieldLink RX2 9 "Twicebook$Row" "keys" "[I", .fieldLink RX2 15 "Twicebook$Row" "values" "[I", .methodLink RX2 22 yX2_holdsPlace, .instanceMethod yX2_holdsPlace, .selects RX2 yX2_holdsPlace yX2_holdsPlace, .initialized RX2, .code yX2_holdsPlace cX2_holdsPlace 2 (some .boolean), .fieldLink RX2 18 "Twicebook$Row" "count" "I", .methodLink RX2 30 yX2_close, .instanceMethod yX2_close, .selects RX2 yX2_close yX2_close, .code yX2_close cX2_close 3 none, .methodLink RX2 34 yX2_append, .instanceMethod yX2_append, .selects RX2 yX2_append yX2_append, .code yX2_append cX2_append 3 none] ++ wsX20)
def wsX0_touch_r1 : List Cond := [Cond.fieldLink RX0 18 "Twicebook$Page" "asking" "LTwicebook$Row;", Cond.methodLink RX0 29 yX2_find, Cond.instanceMethod yX2_find, Cond.selects RX2 yX2_find yX2_find, Cond.initialized RX2, Cond.code yX2_find cX2_find 3 (some .int), Cond.fieldLink RX2 18 "Twicebook$Row" "count" "I", Cond.methodLink RX2 26 yX2_keyIn, Cond.instanceMethod yX2_keyIn, Cond.selects RX2 yX2_keyIn yX2_keyIn, Cond.code yX2_keyIn cX2_keyIn 2 (some .int), Cond.fieldLink RX2 9 "Twicebook$Row" "keys" "[I", Cond.methodLink RX2 22 yX2_holdsPlace, Cond.instanceMethod yX2_holdsPlace, Cond.selects RX2 yX2_holdsPlace yX2_holdsPlace, Cond.code yX2_holdsPlace cX2_holdsPlace 2 (some .boolean), Cond.methodLink RX0 40 yX2_putLast, Cond.instanceMethod yX2_putLast, Cond.selects RX2 yX2_putLast yX2_putLast, Cond.code yX2_putLast cX2_putLast 4 none, Cond.fieldLink RX2 15 "Twicebook$Row" "values" "[I", Cond.methodLink RX2 30 yX2_close, Cond.instanceMethod yX2_close, Cond.selects RX2 yX2_close yX2_close]
def wsX0_touch_r2 : List Cond := [Cond.code yX2_close cX2_close 3 none, Cond.methodLink RX2 34 yX2_append, Cond.instanceMethod yX2_append, Cond.selects RX2 yX2_append yX2_append, Cond.code yX2_append cX2_append 3 none]
def wsX0_touch : List Cond := .code yX0_touch cX0_touch 2 none :: ((wsX0_touch_r1 ++ wsX0_touch_r2) ++ wsX00 ++ wsX20)
def wsX0_takeOut : List Cond := .code yX0_takeOut cX0_takeOut 2 none :: ([.fieldLink RX0 12 "Twicebook$Page" "coming" "LTwicebook$Row;", .fieldLink RX0 18 "Twicebook$Page" "asking" "LTwicebook$Row;", .methodLink RX0 29 yX2_find, .instanceMethod yX2_find, .selects RX2 yX2_find yX2_find, .initialized RX2, .code yX2_find cX2_find 3 (some .int), .fieldLink RX2 18 "Twicebook$Row" "count" "I", .methodLink RX2 26 yX2_keyIn, .instanceMethod yX2_keyIn, .selects RX2 yX2_keyIn yX2_keyIn, .code yX2_keyIn cX2_keyIn 2 (some .int), .fieldLink RX2 9 "Twicebook$Row" "keys" "[I", .methodLink RX2 22 yX2_holdsPlace, .instanceMethod yX2_holdsPlace, .selects RX2 yX2_holdsPlace yX2_holdsPlace, .code yX2_holdsPlace cX2_holdsPlace 2 (some .boolean), .methodLink RX0 44 yX2_close, .instanceMethod yX2_close, .selects RX2 yX2_close yX2_close, .code yX2_close cX2_close 3 none, .fieldLink RX2 15 "Twicebook$Row" "values" "[I"] ++ wsX00 ++ wsX20)
def wsX2_count : List Cond := .code yX2_count cX2_count 1 (some .int) :: ([.fieldLink RX2 18 "Twicebook$Row" "count" "I"] ++ wsX20)
def wsX0_dropEldest_r1 : List Cond := [Cond.fieldLink RX0 25 "Twicebook$Page" "eldestBy" "C", Cond.methodLink RX0 63 yX0_row, Cond.instanceMethod yX0_row, Cond.selects RX0 yX0_row yX0_row, Cond.initialized RX0, Cond.code yX0_row cX0_row 2 (some (.object "Twicebook$Row")), Cond.fieldLink RX0 18 "Twicebook$Page" "asking" "LTwicebook$Row;", Cond.fieldLink RX0 12 "Twicebook$Page" "coming" "LTwicebook$Row;", Cond.methodLink RX0 67 yX2_keyIn, Cond.instanceMethod yX2_keyIn, Cond.selects RX2 yX2_keyIn yX2_keyIn, Cond.initialized RX2, Cond.code yX2_keyIn cX2_keyIn 2 (some .int), Cond.fieldLink RX2 9 "Twicebook$Row" "keys" "[I", Cond.methodLink RX2 22 yX2_holdsPlace, Cond.instanceMethod yX2_holdsPlace, Cond.selects RX2 yX2_holdsPlace yX2_holdsPlace, Cond.code yX2_holdsPlace cX2_holdsPlace 2 (some .boolean), Cond.fieldLink RX2 18 "Twicebook$Row" "count" "I", Cond.methodLink RX0 70 yX0_takeOut, Cond.instanceMethod yX0_takeOut, Cond.selects RX0 yX0_takeOut yX0_takeOut, Cond.code yX0_takeOut cX0_takeOut 2 none, Cond.methodLink RX0 29 yX2_find]
def wsX0_dropEldest_r2 : List Cond := [Cond.instanceMethod yX2_find, Cond.selects RX2 yX2_find yX2_find, Cond.code yX2_find cX2_find 3 (some .int), Cond.methodLink RX2 26 yX2_keyIn, Cond.methodLink RX0 44 yX2_close, Cond.instanceMethod yX2_close, Cond.selects RX2 yX2_close yX2_close, Cond.code yX2_close cX2_close 3 none, Cond.fieldLink RX2 15 "Twicebook$Row" "values" "[I"]
def wsX0_dropEldest : List Cond := .code yX0_dropEldest cX0_dropEldest 2 (some .int) :: ((wsX0_dropEldest_r1 ++ wsX0_dropEldest_r2) ++ wsX00 ++ wsX20)
def wsX0_letIn_r1 : List Cond := [Cond.fieldLink RX0 12 "Twicebook$Page" "coming" "LTwicebook$Row;", Cond.fieldLink RX0 21 "Twicebook$Page" "most" "I", Cond.fieldLink RX0 18 "Twicebook$Page" "asking" "LTwicebook$Row;", Cond.methodLink RX0 47 yX2_count, Cond.instanceMethod yX2_count, Cond.selects RX2 yX2_count yX2_count, Cond.initialized RX2, Cond.code yX2_count cX2_count 1 (some .int), Cond.fieldLink RX2 18 "Twicebook$Row" "count" "I", Cond.methodLink RX0 51 yX0_dropEldest, Cond.instanceMethod yX0_dropEldest, Cond.selects RX0 yX0_dropEldest yX0_dropEldest, Cond.initialized RX0, Cond.code yX0_dropEldest cX0_dropEldest 2 (some .int), Cond.fieldLink RX0 25 "Twicebook$Page" "eldestBy" "C", Cond.methodLink RX0 63 yX0_row, Cond.instanceMethod yX0_row, Cond.selects RX0 yX0_row yX0_row, Cond.code yX0_row cX0_row 2 (some (.object "Twicebook$Row")), Cond.methodLink RX0 67 yX2_keyIn, Cond.instanceMethod yX2_keyIn, Cond.selects RX2 yX2_keyIn yX2_keyIn, Cond.code yX2_keyIn cX2_keyIn 2 (some .int), Cond.fieldLink RX2 9 "Twicebook$Row" "keys" "[I"]
def wsX0_letIn_r2 : List Cond := [Cond.methodLink RX2 22 yX2_holdsPlace, Cond.instanceMethod yX2_holdsPlace, Cond.selects RX2 yX2_holdsPlace yX2_holdsPlace, Cond.code yX2_holdsPlace cX2_holdsPlace 2 (some .boolean), Cond.methodLink RX0 70 yX0_takeOut, Cond.instanceMethod yX0_takeOut, Cond.selects RX0 yX0_takeOut yX0_takeOut, Cond.code yX0_takeOut cX0_takeOut 2 none, Cond.methodLink RX0 29 yX2_find, Cond.instanceMethod yX2_find, Cond.selects RX2 yX2_find yX2_find, Cond.code yX2_find cX2_find 3 (some .int), Cond.methodLink RX2 26 yX2_keyIn, Cond.methodLink RX0 44 yX2_close, Cond.instanceMethod yX2_close, Cond.selects RX2 yX2_close yX2_close, Cond.code yX2_close cX2_close 3 none, Cond.fieldLink RX2 15 "Twicebook$Row" "values" "[I", Cond.methodLink RX0 54 yX2_append, Cond.instanceMethod yX2_append, Cond.selects RX2 yX2_append yX2_append, Cond.code yX2_append cX2_append 3 none]
def wsX0_letIn : List Cond := .code yX0_letIn cX0_letIn 4 (some .int) :: ((wsX0_letIn_r1 ++ wsX0_letIn_r2) ++ wsX00 ++ wsX20)
def wsX0_dropWhatIsOver_r1 : List Cond := [Cond.fieldLink RX0 12 "Twicebook$Page" "coming" "LTwicebook$Row;", Cond.fieldLink RX0 21 "Twicebook$Page" "most" "I", Cond.methodLink RX0 57 Lib.Math.max.name, Cond.static Lib.Math.max.name, Cond.initialized "java/lang/Math", Cond.code Lib.Math.max.name Lib.Math.max.code 2 (some .int), Cond.methodLink RX0 47 yX2_count, Cond.instanceMethod yX2_count, Cond.selects RX2 yX2_count yX2_count, Cond.initialized RX2, Cond.code yX2_count cX2_count 1 (some .int), Cond.fieldLink RX2 18 "Twicebook$Row" "count" "I", Cond.methodLink RX0 51 yX0_dropEldest, Cond.instanceMethod yX0_dropEldest, Cond.selects RX0 yX0_dropEldest yX0_dropEldest, Cond.initialized RX0, Cond.code yX0_dropEldest cX0_dropEldest 2 (some .int), Cond.fieldLink RX0 25 "Twicebook$Page" "eldestBy" "C", Cond.methodLink RX0 63 yX0_row, Cond.instanceMethod yX0_row, Cond.selects RX0 yX0_row yX0_row, Cond.code yX0_row cX0_row 2 (some (.object "Twicebook$Row")), Cond.fieldLink RX0 18 "Twicebook$Page" "asking" "LTwicebook$Row;", Cond.methodLink RX0 67 yX2_keyIn]
def wsX0_dropWhatIsOver_r2 : List Cond := [Cond.instanceMethod yX2_keyIn, Cond.selects RX2 yX2_keyIn yX2_keyIn, Cond.code yX2_keyIn cX2_keyIn 2 (some .int), Cond.fieldLink RX2 9 "Twicebook$Row" "keys" "[I", Cond.methodLink RX2 22 yX2_holdsPlace, Cond.instanceMethod yX2_holdsPlace, Cond.selects RX2 yX2_holdsPlace yX2_holdsPlace, Cond.code yX2_holdsPlace cX2_holdsPlace 2 (some .boolean), Cond.methodLink RX0 70 yX0_takeOut, Cond.instanceMethod yX0_takeOut, Cond.selects RX0 yX0_takeOut yX0_takeOut, Cond.code yX0_takeOut cX0_takeOut 2 none, Cond.methodLink RX0 29 yX2_find, Cond.instanceMethod yX2_find, Cond.selects RX2 yX2_find yX2_find, Cond.code yX2_find cX2_find 3 (some .int), Cond.methodLink RX2 26 yX2_keyIn, Cond.methodLink RX0 44 yX2_close, Cond.instanceMethod yX2_close, Cond.selects RX2 yX2_close yX2_close, Cond.code yX2_close cX2_close 3 none, Cond.fieldLink RX2 15 "Twicebook$Row" "values" "[I"]
def wsX0_dropWhatIsOver : List Cond := .code yX0_dropWhatIsOver cX0_dropWhatIsOver 3 (some .int) :: ((wsX0_dropWhatIsOver_r1 ++ wsX0_dropWhatIsOver_r2) ++ wsX00 ++ wsX20)
def wsX0_takeOutEach_r1 : List Cond := [Cond.fieldLink RX0 12 "Twicebook$Page" "coming" "LTwicebook$Row;", Cond.methodLink RX0 47 yX2_count, Cond.instanceMethod yX2_count, Cond.selects RX2 yX2_count yX2_count, Cond.initialized RX2, Cond.code yX2_count cX2_count 1 (some .int), Cond.fieldLink RX2 18 "Twicebook$Row" "count" "I", Cond.methodLink RX0 63 yX0_row, Cond.instanceMethod yX0_row, Cond.selects RX0 yX0_row yX0_row, Cond.initialized RX0, Cond.code yX0_row cX0_row 2 (some (.object "Twicebook$Row")), Cond.fieldLink RX0 18 "Twicebook$Page" "asking" "LTwicebook$Row;", Cond.methodLink RX0 67 yX2_keyIn, Cond.instanceMethod yX2_keyIn, Cond.selects RX2 yX2_keyIn yX2_keyIn, Cond.code yX2_keyIn cX2_keyIn 2 (some .int), Cond.fieldLink RX2 9 "Twicebook$Row" "keys" "[I", Cond.methodLink RX2 22 yX2_holdsPlace, Cond.instanceMethod yX2_holdsPlace, Cond.selects RX2 yX2_holdsPlace yX2_holdsPlace, Cond.code yX2_holdsPlace cX2_holdsPlace 2 (some .boolean), Cond.methodLink RX0 70 yX0_takeOut, Cond.instanceMethod yX0_takeOut]
def wsX0_takeOutEach_r2 : List Cond := [Cond.selects RX0 yX0_takeOut yX0_takeOut, Cond.code yX0_takeOut cX0_takeOut 2 none, Cond.methodLink RX0 29 yX2_find, Cond.instanceMethod yX2_find, Cond.selects RX2 yX2_find yX2_find, Cond.code yX2_find cX2_find 3 (some .int), Cond.methodLink RX2 26 yX2_keyIn, Cond.methodLink RX0 44 yX2_close, Cond.instanceMethod yX2_close, Cond.selects RX2 yX2_close yX2_close, Cond.code yX2_close cX2_close 3 none, Cond.fieldLink RX2 15 "Twicebook$Row" "values" "[I"]
def wsX0_takeOutEach : List Cond := .code yX0_takeOutEach cX0_takeOutEach 5 (some .int) :: ((wsX0_takeOutEach_r1 ++ wsX0_takeOutEach_r2) ++ wsX00 ++ wsX20)
def wsX0_staying : List Cond := .code yX0_staying cX0_staying 4 (some .int) :: ([.fieldLink RX0 18 "Twicebook$Page" "asking" "LTwicebook$Row;", .fieldLink RX0 12 "Twicebook$Page" "coming" "LTwicebook$Row;", .methodLink RX0 47 yX2_count, .instanceMethod yX2_count, .selects RX2 yX2_count yX2_count, .initialized RX2, .code yX2_count cX2_count 1 (some .int), .fieldLink RX2 18 "Twicebook$Row" "count" "I", .methodLink RX0 67 yX2_keyIn, .instanceMethod yX2_keyIn, .selects RX2 yX2_keyIn yX2_keyIn, .code yX2_keyIn cX2_keyIn 2 (some .int), .fieldLink RX2 9 "Twicebook$Row" "keys" "[I", .methodLink RX2 22 yX2_holdsPlace, .instanceMethod yX2_holdsPlace, .selects RX2 yX2_holdsPlace yX2_holdsPlace, .code yX2_holdsPlace cX2_holdsPlace 2 (some .boolean), .methodLink RX0 29 yX2_find, .instanceMethod yX2_find, .selects RX2 yX2_find yX2_find, .code yX2_find cX2_find 3 (some .int), .methodLink RX2 26 yX2_keyIn] ++ wsX00 ++ wsX20)
def wsX0_crossedPairs : List Cond := .code yX0_crossedPairs cX0_crossedPairs 5 (some .int) :: ([.fieldLink RX0 18 "Twicebook$Page" "asking" "LTwicebook$Row;", .fieldLink RX0 12 "Twicebook$Page" "coming" "LTwicebook$Row;", .methodLink RX0 47 yX2_count, .instanceMethod yX2_count, .selects RX2 yX2_count yX2_count, .initialized RX2, .code yX2_count cX2_count 1 (some .int), .fieldLink RX2 18 "Twicebook$Row" "count" "I", .methodLink RX0 67 yX2_keyIn, .instanceMethod yX2_keyIn, .selects RX2 yX2_keyIn yX2_keyIn, .code yX2_keyIn cX2_keyIn 2 (some .int), .fieldLink RX2 9 "Twicebook$Row" "keys" "[I", .methodLink RX2 22 yX2_holdsPlace, .instanceMethod yX2_holdsPlace, .selects RX2 yX2_holdsPlace yX2_holdsPlace, .code yX2_holdsPlace cX2_holdsPlace 2 (some .boolean), .methodLink RX0 29 yX2_find, .instanceMethod yX2_find, .selects RX2 yX2_find yX2_find, .code yX2_find cX2_find 3 (some .int), .methodLink RX2 26 yX2_keyIn] ++ wsX00 ++ wsX20)
def wsX2_become : List Cond := .code yX2_become cX2_become 3 none :: ([.fieldLink RX2 18 "Twicebook$Row" "count" "I", .methodLink RX2 26 yX2_keyIn, .instanceMethod yX2_keyIn, .selects RX2 yX2_keyIn yX2_keyIn, .initialized RX2, .code yX2_keyIn cX2_keyIn 2 (some .int), .fieldLink RX2 9 "Twicebook$Row" "keys" "[I", .methodLink RX2 22 yX2_holdsPlace, .instanceMethod yX2_holdsPlace, .selects RX2 yX2_holdsPlace yX2_holdsPlace, .code yX2_holdsPlace cX2_holdsPlace 2 (some .boolean), .methodLink RX2 38 yX2_valueIn, .instanceMethod yX2_valueIn, .selects RX2 yX2_valueIn yX2_valueIn, .code yX2_valueIn cX2_valueIn 2 (some .int), .fieldLink RX2 15 "Twicebook$Row" "values" "[I", .methodLink RX2 34 yX2_append, .instanceMethod yX2_append, .selects RX2 yX2_append yX2_append, .code yX2_append cX2_append 3 none] ++ wsX20)
def wsX0_become_r1 : List Cond := [Cond.fieldLink RX0 12 "Twicebook$Page" "coming" "LTwicebook$Row;", Cond.fieldLink RX0 18 "Twicebook$Page" "asking" "LTwicebook$Row;", Cond.fieldLink RX0 21 "Twicebook$Page" "most" "I", Cond.fieldLink RX0 25 "Twicebook$Page" "eldestBy" "C", Cond.methodLink RX0 73 yX2_become, Cond.instanceMethod yX2_become, Cond.selects RX2 yX2_become yX2_become, Cond.initialized RX2, Cond.code yX2_become cX2_become 3 none, Cond.fieldLink RX2 18 "Twicebook$Row" "count" "I", Cond.methodLink RX2 26 yX2_keyIn, Cond.instanceMethod yX2_keyIn, Cond.selects RX2 yX2_keyIn yX2_keyIn, Cond.code yX2_keyIn cX2_keyIn 2 (some .int), Cond.fieldLink RX2 9 "Twicebook$Row" "keys" "[I", Cond.methodLink RX2 22 yX2_holdsPlace, Cond.instanceMethod yX2_holdsPlace, Cond.selects RX2 yX2_holdsPlace yX2_holdsPlace, Cond.code yX2_holdsPlace cX2_holdsPlace 2 (some .boolean), Cond.methodLink RX2 38 yX2_valueIn, Cond.instanceMethod yX2_valueIn, Cond.selects RX2 yX2_valueIn yX2_valueIn, Cond.code yX2_valueIn cX2_valueIn 2 (some .int), Cond.fieldLink RX2 15 "Twicebook$Row" "values" "[I"]
def wsX0_become_r2 : List Cond := [Cond.methodLink RX2 34 yX2_append, Cond.instanceMethod yX2_append, Cond.selects RX2 yX2_append yX2_append, Cond.code yX2_append cX2_append 3 none]
def wsX0_become : List Cond := .code yX0_become cX0_become 2 none :: ((wsX0_become_r1 ++ wsX0_become_r2) ++ wsX00 ++ wsX20)
def wsX1_init_r1 : List Cond := [Cond.methodLink RX1 3 objectInit, Cond.instanceMethod objectInit, Cond.code objectInit ⟨#[0xb1]⟩ 1 none, Cond.classLink RX1 9 RX0, Cond.fieldLink RX1 11 "Twicebook$Past" "pages" "[LTwicebook$Page;", Cond.instantiable RX0 4, Cond.initialized RX0, Cond.fieldLink RX1 18 "Twicebook$Past" "free" "I", Cond.fieldLink RX1 22 "Twicebook$Past" "kept" "I", Cond.methodLink RX1 17 yX0_init, Cond.instanceMethod yX0_init, Cond.code yX0_init cX0_init 1 none, Cond.methodLink RX0 3 objectInit, Cond.classLink RX0 9 RX2, Cond.instantiable RX2 3, Cond.initialized RX2, Cond.fieldLink RX0 12 "Twicebook$Page" "coming" "LTwicebook$Row;", Cond.fieldLink RX0 18 "Twicebook$Page" "asking" "LTwicebook$Row;", Cond.fieldLink RX0 21 "Twicebook$Page" "most" "I", Cond.fieldLink RX0 25 "Twicebook$Page" "eldestBy" "C", Cond.methodLink RX0 11 yX2_init, Cond.instanceMethod yX2_init, Cond.code yX2_init cX2_init 1 none, Cond.methodLink RX2 3 objectInit]
def wsX1_init_r2 : List Cond := [Cond.arrayClass .int, Cond.fieldLink RX2 9 "Twicebook$Row" "keys" "[I", Cond.fieldLink RX2 15 "Twicebook$Row" "values" "[I", Cond.fieldLink RX2 18 "Twicebook$Row" "count" "I"]
def wsX1_init : List Cond := .code yX1_init cX1_init 2 none :: ((wsX1_init_r1 ++ wsX1_init_r2) ++ wsX10 ++ wsX00 ++ wsX20)
def wsX1_kept : List Cond := .code yX1_kept cX1_kept 1 (some .int) :: ([.fieldLink RX1 22 "Twicebook$Past" "kept" "I"] ++ wsX10)
def wsX1_keep_r1 : List Cond := [Cond.fieldLink RX1 18 "Twicebook$Past" "free" "I", Cond.fieldLink RX1 11 "Twicebook$Past" "pages" "[LTwicebook$Page;", Cond.fieldLink RX1 22 "Twicebook$Past" "kept" "I", Cond.methodLink RX1 29 Lib.Math.min.name, Cond.static Lib.Math.min.name, Cond.initialized "java/lang/Math", Cond.code Lib.Math.min.name Lib.Math.min.code 2 (some .int), Cond.methodLink RX1 25 yX0_become, Cond.instanceMethod yX0_become, Cond.selects RX0 yX0_become yX0_become, Cond.initialized RX0, Cond.code yX0_become cX0_become 2 none, Cond.fieldLink RX0 12 "Twicebook$Page" "coming" "LTwicebook$Row;", Cond.fieldLink RX0 18 "Twicebook$Page" "asking" "LTwicebook$Row;", Cond.fieldLink RX0 21 "Twicebook$Page" "most" "I", Cond.fieldLink RX0 25 "Twicebook$Page" "eldestBy" "C", Cond.methodLink RX0 73 yX2_become, Cond.instanceMethod yX2_become, Cond.selects RX2 yX2_become yX2_become, Cond.initialized RX2, Cond.code yX2_become cX2_become 3 none, Cond.fieldLink RX2 18 "Twicebook$Row" "count" "I", Cond.methodLink RX2 26 yX2_keyIn, Cond.instanceMethod yX2_keyIn]
def wsX1_keep_r2 : List Cond := [Cond.selects RX2 yX2_keyIn yX2_keyIn, Cond.code yX2_keyIn cX2_keyIn 2 (some .int), Cond.fieldLink RX2 9 "Twicebook$Row" "keys" "[I", Cond.methodLink RX2 22 yX2_holdsPlace, Cond.instanceMethod yX2_holdsPlace, Cond.selects RX2 yX2_holdsPlace yX2_holdsPlace, Cond.code yX2_holdsPlace cX2_holdsPlace 2 (some .boolean), Cond.methodLink RX2 38 yX2_valueIn, Cond.instanceMethod yX2_valueIn, Cond.selects RX2 yX2_valueIn yX2_valueIn, Cond.code yX2_valueIn cX2_valueIn 2 (some .int), Cond.fieldLink RX2 15 "Twicebook$Row" "values" "[I", Cond.methodLink RX2 34 yX2_append, Cond.instanceMethod yX2_append, Cond.selects RX2 yX2_append yX2_append, Cond.code yX2_append cX2_append 3 none]
def wsX1_keep : List Cond := .code yX1_keep cX1_keep 2 none :: ((wsX1_keep_r1 ++ wsX1_keep_r2) ++ wsX10 ++ wsX00 ++ wsX20)
def wsX1_bringBack_r1 : List Cond := [Cond.fieldLink RX1 18 "Twicebook$Past" "free" "I", Cond.fieldLink RX1 11 "Twicebook$Past" "pages" "[LTwicebook$Page;", Cond.fieldLink RX1 22 "Twicebook$Past" "kept" "I", Cond.methodLink RX1 25 yX0_become, Cond.instanceMethod yX0_become, Cond.selects RX0 yX0_become yX0_become, Cond.initialized RX0, Cond.code yX0_become cX0_become 2 none, Cond.fieldLink RX0 12 "Twicebook$Page" "coming" "LTwicebook$Row;", Cond.fieldLink RX0 18 "Twicebook$Page" "asking" "LTwicebook$Row;", Cond.fieldLink RX0 21 "Twicebook$Page" "most" "I", Cond.fieldLink RX0 25 "Twicebook$Page" "eldestBy" "C", Cond.methodLink RX0 73 yX2_become, Cond.instanceMethod yX2_become, Cond.selects RX2 yX2_become yX2_become, Cond.initialized RX2, Cond.code yX2_become cX2_become 3 none, Cond.fieldLink RX2 18 "Twicebook$Row" "count" "I", Cond.methodLink RX2 26 yX2_keyIn, Cond.instanceMethod yX2_keyIn, Cond.selects RX2 yX2_keyIn yX2_keyIn, Cond.code yX2_keyIn cX2_keyIn 2 (some .int), Cond.fieldLink RX2 9 "Twicebook$Row" "keys" "[I", Cond.methodLink RX2 22 yX2_holdsPlace]
def wsX1_bringBack_r2 : List Cond := [Cond.instanceMethod yX2_holdsPlace, Cond.selects RX2 yX2_holdsPlace yX2_holdsPlace, Cond.code yX2_holdsPlace cX2_holdsPlace 2 (some .boolean), Cond.methodLink RX2 38 yX2_valueIn, Cond.instanceMethod yX2_valueIn, Cond.selects RX2 yX2_valueIn yX2_valueIn, Cond.code yX2_valueIn cX2_valueIn 2 (some .int), Cond.fieldLink RX2 15 "Twicebook$Row" "values" "[I", Cond.methodLink RX2 34 yX2_append, Cond.instanceMethod yX2_append, Cond.selects RX2 yX2_append yX2_append, Cond.code yX2_append cX2_append 3 none]
def wsX1_bringBack : List Cond := .code yX1_bringBack cX1_bringBack 3 none :: ((wsX1_bringBack_r1 ++ wsX1_bringBack_r2) ++ wsX10 ++ wsX00 ++ wsX20)
def wsX2_tellsAlike : List Cond := .code yX2_tellsAlike cX2_tellsAlike 2 (some .boolean) :: ([.fieldLink RX2 18 "Twicebook$Row" "count" "I", .methodLink RX2 26 yX2_keyIn, .instanceMethod yX2_keyIn, .selects RX2 yX2_keyIn yX2_keyIn, .initialized RX2, .code yX2_keyIn cX2_keyIn 2 (some .int), .fieldLink RX2 9 "Twicebook$Row" "keys" "[I", .methodLink RX2 22 yX2_holdsPlace, .instanceMethod yX2_holdsPlace, .selects RX2 yX2_holdsPlace yX2_holdsPlace, .code yX2_holdsPlace cX2_holdsPlace 2 (some .boolean), .methodLink RX2 41 yX2_find, .instanceMethod yX2_find, .selects RX2 yX2_find yX2_find, .code yX2_find cX2_find 3 (some .int)] ++ wsX20)
def wsX2_hasEntriesOf : List Cond := .code yX2_hasEntriesOf cX2_hasEntriesOf 4 (some .boolean) :: ([.fieldLink RX2 18 "Twicebook$Row" "count" "I", .methodLink RX2 26 yX2_keyIn, .instanceMethod yX2_keyIn, .selects RX2 yX2_keyIn yX2_keyIn, .initialized RX2, .code yX2_keyIn cX2_keyIn 2 (some .int), .fieldLink RX2 9 "Twicebook$Row" "keys" "[I", .methodLink RX2 22 yX2_holdsPlace, .instanceMethod yX2_holdsPlace, .selects RX2 yX2_holdsPlace yX2_holdsPlace, .code yX2_holdsPlace cX2_holdsPlace 2 (some .boolean), .methodLink RX2 41 yX2_find, .instanceMethod yX2_find, .selects RX2 yX2_find yX2_find, .code yX2_find cX2_find 3 (some .int), .methodLink RX2 38 yX2_valueIn, .instanceMethod yX2_valueIn, .selects RX2 yX2_valueIn yX2_valueIn, .code yX2_valueIn cX2_valueIn 2 (some .int), .fieldLink RX2 15 "Twicebook$Row" "values" "[I"] ++ wsX20)
def wsX2_sameAs : List Cond := .code yX2_sameAs cX2_sameAs 3 (some .boolean) :: ([.fieldLink RX2 18 "Twicebook$Row" "count" "I", .methodLink RX2 26 yX2_keyIn, .instanceMethod yX2_keyIn, .selects RX2 yX2_keyIn yX2_keyIn, .initialized RX2, .code yX2_keyIn cX2_keyIn 2 (some .int), .fieldLink RX2 9 "Twicebook$Row" "keys" "[I", .methodLink RX2 22 yX2_holdsPlace, .instanceMethod yX2_holdsPlace, .selects RX2 yX2_holdsPlace yX2_holdsPlace, .code yX2_holdsPlace cX2_holdsPlace 2 (some .boolean), .methodLink RX2 38 yX2_valueIn, .instanceMethod yX2_valueIn, .selects RX2 yX2_valueIn yX2_valueIn, .code yX2_valueIn cX2_valueIn 2 (some .int), .fieldLink RX2 15 "Twicebook$Row" "values" "[I"] ++ wsX20)
def wsX3_init : List Cond := .code yX3_init cX3_init 1 none :: ([.methodLink RX3 3 objectInit, .instanceMethod objectInit, .code objectInit ⟨#[0xb1]⟩ 1 none, .fieldLink RX3 9 "Twicebook$Tour" "on" "Z", .fieldLink RX3 15 "Twicebook$Tour" "order" "C", .fieldLink RX3 19 "Twicebook$Tour" "nextPlace" "I", .fieldLink RX3 23 "Twicebook$Tour" "mayCut" "Z"] ++ wsX30)
def wsX3_begin : List Cond := .code yX3_begin cX3_begin 2 none :: ([.fieldLink RX3 9 "Twicebook$Tour" "on" "Z", .fieldLink RX3 15 "Twicebook$Tour" "order" "C", .fieldLink RX3 19 "Twicebook$Tour" "nextPlace" "I", .fieldLink RX3 23 "Twicebook$Tour" "mayCut" "Z"] ++ wsX30)
def wsX3_end : List Cond := .code yX3_end cX3_end 1 none :: ([.fieldLink RX3 9 "Twicebook$Tour" "on" "Z"] ++ wsX30)
def wsX3_isOn : List Cond := .code yX3_isOn cX3_isOn 1 (some .boolean) :: ([.fieldLink RX3 9 "Twicebook$Tour" "on" "Z"] ++ wsX30)
def wsX3_order : List Cond := .code yX3_order cX3_order 1 (some .char) :: ([.fieldLink RX3 15 "Twicebook$Tour" "order" "C"] ++ wsX30)
def wsX3_nextPlace : List Cond := .code yX3_nextPlace cX3_nextPlace 1 (some .int) :: ([.fieldLink RX3 19 "Twicebook$Tour" "nextPlace" "I"] ++ wsX30)
def wsX3_mayCut : List Cond := .code yX3_mayCut cX3_mayCut 1 (some .boolean) :: ([.fieldLink RX3 23 "Twicebook$Tour" "mayCut" "Z"] ++ wsX30)
def wsX3_goOver : List Cond := .code yX3_goOver cX3_goOver 1 none :: ([.fieldLink RX3 19 "Twicebook$Tour" "nextPlace" "I", .fieldLink RX3 23 "Twicebook$Tour" "mayCut" "Z"] ++ wsX30)
def wsX3_goBack : List Cond := .code yX3_goBack cX3_goBack 1 none :: ([.fieldLink RX3 19 "Twicebook$Tour" "nextPlace" "I", .fieldLink RX3 23 "Twicebook$Tour" "mayCut" "Z"] ++ wsX30)
def wsX4_init_r1 : List Cond := [Cond.methodLink RX4 1 objectInit, Cond.instanceMethod objectInit, Cond.code objectInit ⟨#[0xb1]⟩ 1 none, Cond.classLink RX4 7 RX0, Cond.instantiable RX0 4, Cond.initialized RX0, Cond.fieldLink RX4 10 "Twicebook" "book" "LTwicebook$Page;", Cond.classLink RX4 16 RX1, Cond.instantiable RX1 3, Cond.initialized RX1, Cond.fieldLink RX4 19 "Twicebook" "past" "LTwicebook$Past;", Cond.classLink RX4 23 RX3, Cond.instantiable RX3 4, Cond.initialized RX3, Cond.fieldLink RX4 26 "Twicebook" "tour" "LTwicebook$Tour;", Cond.classLink RX4 30 RX2, Cond.instantiable RX2 3, Cond.initialized RX2, Cond.fieldLink RX4 33 "Twicebook" "trial" "LTwicebook$Row;", Cond.methodLink RX4 9 yX0_init, Cond.instanceMethod yX0_init, Cond.code yX0_init cX0_init 1 none, Cond.methodLink RX0 3 objectInit, Cond.classLink RX0 9 RX2]
def wsX4_init_r2 : List Cond := [Cond.fieldLink RX0 12 "Twicebook$Page" "coming" "LTwicebook$Row;", Cond.fieldLink RX0 18 "Twicebook$Page" "asking" "LTwicebook$Row;", Cond.fieldLink RX0 21 "Twicebook$Page" "most" "I", Cond.fieldLink RX0 25 "Twicebook$Page" "eldestBy" "C", Cond.methodLink RX0 11 yX2_init, Cond.instanceMethod yX2_init, Cond.code yX2_init cX2_init 1 none, Cond.methodLink RX2 3 objectInit, Cond.arrayClass .int, Cond.fieldLink RX2 9 "Twicebook$Row" "keys" "[I", Cond.fieldLink RX2 15 "Twicebook$Row" "values" "[I", Cond.fieldLink RX2 18 "Twicebook$Row" "count" "I", Cond.methodLink RX4 18 yX1_init, Cond.instanceMethod yX1_init, Cond.code yX1_init cX1_init 2 none, Cond.methodLink RX1 3 objectInit, Cond.classLink RX1 9 RX0, Cond.fieldLink RX1 11 "Twicebook$Past" "pages" "[LTwicebook$Page;", Cond.fieldLink RX1 18 "Twicebook$Past" "free" "I", Cond.fieldLink RX1 22 "Twicebook$Past" "kept" "I", Cond.methodLink RX1 17 yX0_init, Cond.methodLink RX4 25 yX3_init, Cond.instanceMethod yX3_init, Cond.code yX3_init cX3_init 1 none]
def wsX4_init_r3 : List Cond := [Cond.methodLink RX3 3 objectInit, Cond.fieldLink RX3 9 "Twicebook$Tour" "on" "Z", Cond.fieldLink RX3 15 "Twicebook$Tour" "order" "C", Cond.fieldLink RX3 19 "Twicebook$Tour" "nextPlace" "I", Cond.fieldLink RX3 23 "Twicebook$Tour" "mayCut" "Z", Cond.methodLink RX4 32 yX2_init]
def wsX4_init : List Cond := .code yX4_init cX4_init 1 none :: ((wsX4_init_r1 ++ (wsX4_init_r2 ++ wsX4_init_r3)) ++ wsX00 ++ wsX40 ++ wsX10 ++ wsX30 ++ wsX20)
def wsX4_refuseKeyOutOfRange : List Cond := .code yX4_refuseKeyOutOfRange cX4_refuseKeyOutOfRange 2 none :: ([.classLink RX4 76 "java/lang/IllegalArgumentException", .initialized "java/lang/IllegalArgumentException"] ++ (vx_atS RX4 80 "java/lang/IllegalArgumentException" ["java/lang/RuntimeException", "java/lang/Exception"]).filter goodWord)
def wsX4_beginChange_r1 : List Cond := [Cond.fieldLink RX4 26 "Twicebook" "tour" "LTwicebook$Tour;", Cond.fieldLink RX4 19 "Twicebook" "past" "LTwicebook$Past;", Cond.fieldLink RX4 10 "Twicebook" "book" "LTwicebook$Page;", Cond.methodLink RX4 181 yX3_end, Cond.instanceMethod yX3_end, Cond.selects RX3 yX3_end yX3_end, Cond.initialized RX3, Cond.code yX3_end cX3_end 1 none, Cond.fieldLink RX3 9 "Twicebook$Tour" "on" "Z", Cond.methodLink RX4 155 yX1_keep, Cond.instanceMethod yX1_keep, Cond.selects RX1 yX1_keep yX1_keep, Cond.initialized RX1, Cond.code yX1_keep cX1_keep 2 none, Cond.fieldLink RX1 18 "Twicebook$Past" "free" "I", Cond.fieldLink RX1 11 "Twicebook$Past" "pages" "[LTwicebook$Page;", Cond.fieldLink RX1 22 "Twicebook$Past" "kept" "I", Cond.methodLink RX1 29 Lib.Math.min.name, Cond.static Lib.Math.min.name, Cond.initialized "java/lang/Math", Cond.code Lib.Math.min.name Lib.Math.min.code 2 (some .int), Cond.methodLink RX1 25 yX0_become, Cond.instanceMethod yX0_become, Cond.selects RX0 yX0_become yX0_become]
def wsX4_beginChange_r2 : List Cond := [Cond.initialized RX0, Cond.code yX0_become cX0_become 2 none, Cond.fieldLink RX0 12 "Twicebook$Page" "coming" "LTwicebook$Row;", Cond.fieldLink RX0 18 "Twicebook$Page" "asking" "LTwicebook$Row;", Cond.fieldLink RX0 21 "Twicebook$Page" "most" "I", Cond.fieldLink RX0 25 "Twicebook$Page" "eldestBy" "C", Cond.methodLink RX0 73 yX2_become, Cond.instanceMethod yX2_become, Cond.selects RX2 yX2_become yX2_become, Cond.initialized RX2, Cond.code yX2_become cX2_become 3 none, Cond.fieldLink RX2 18 "Twicebook$Row" "count" "I", Cond.methodLink RX2 26 yX2_keyIn, Cond.instanceMethod yX2_keyIn, Cond.selects RX2 yX2_keyIn yX2_keyIn, Cond.code yX2_keyIn cX2_keyIn 2 (some .int), Cond.fieldLink RX2 9 "Twicebook$Row" "keys" "[I", Cond.methodLink RX2 22 yX2_holdsPlace, Cond.instanceMethod yX2_holdsPlace, Cond.selects RX2 yX2_holdsPlace yX2_holdsPlace, Cond.code yX2_holdsPlace cX2_holdsPlace 2 (some .boolean), Cond.methodLink RX2 38 yX2_valueIn, Cond.instanceMethod yX2_valueIn, Cond.selects RX2 yX2_valueIn yX2_valueIn]
def wsX4_beginChange_r3 : List Cond := [Cond.code yX2_valueIn cX2_valueIn 2 (some .int), Cond.fieldLink RX2 15 "Twicebook$Row" "values" "[I", Cond.methodLink RX2 34 yX2_append, Cond.instanceMethod yX2_append, Cond.selects RX2 yX2_append yX2_append, Cond.code yX2_append cX2_append 3 none]
def wsX4_beginChange : List Cond := .code yX4_beginChange cX4_beginChange 1 none :: ((wsX4_beginChange_r1 ++ (wsX4_beginChange_r2 ++ wsX4_beginChange_r3)) ++ wsX40 ++ wsX30 ++ wsX10 ++ wsX00 ++ wsX20)
def wsX4_put_r1 : List Cond := [Cond.fieldLink RX4 10 "Twicebook" "book" "LTwicebook$Page;", Cond.methodLink RX4 37 yX4_refuseKeyOutOfRange, Cond.instanceMethod yX4_refuseKeyOutOfRange, Cond.selects RX4 yX4_refuseKeyOutOfRange yX4_refuseKeyOutOfRange, Cond.initialized RX4, Cond.code yX4_refuseKeyOutOfRange cX4_refuseKeyOutOfRange 2 none, Cond.classLink RX4 76 "java/lang/IllegalArgumentException", Cond.initialized "java/lang/IllegalArgumentException", Cond.methodLink RX4 41 yX4_beginChange, Cond.instanceMethod yX4_beginChange, Cond.selects RX4 yX4_beginChange yX4_beginChange, Cond.code yX4_beginChange cX4_beginChange 1 none, Cond.fieldLink RX4 26 "Twicebook" "tour" "LTwicebook$Tour;", Cond.fieldLink RX4 19 "Twicebook" "past" "LTwicebook$Past;", Cond.methodLink RX4 181 yX3_end, Cond.instanceMethod yX3_end, Cond.selects RX3 yX3_end yX3_end, Cond.initialized RX3, Cond.code yX3_end cX3_end 1 none, Cond.fieldLink RX3 9 "Twicebook$Tour" "on" "Z", Cond.methodLink RX4 155 yX1_keep, Cond.instanceMethod yX1_keep, Cond.selects RX1 yX1_keep yX1_keep, Cond.initialized RX1]
def wsX4_put_r2 : List Cond := [Cond.code yX1_keep cX1_keep 2 none, Cond.fieldLink RX1 18 "Twicebook$Past" "free" "I", Cond.fieldLink RX1 11 "Twicebook$Past" "pages" "[LTwicebook$Page;", Cond.fieldLink RX1 22 "Twicebook$Past" "kept" "I", Cond.methodLink RX1 29 Lib.Math.min.name, Cond.static Lib.Math.min.name, Cond.initialized "java/lang/Math", Cond.code Lib.Math.min.name Lib.Math.min.code 2 (some .int), Cond.methodLink RX1 25 yX0_become, Cond.instanceMethod yX0_become, Cond.selects RX0 yX0_become yX0_become, Cond.initialized RX0, Cond.code yX0_become cX0_become 2 none, Cond.fieldLink RX0 12 "Twicebook$Page" "coming" "LTwicebook$Row;", Cond.fieldLink RX0 18 "Twicebook$Page" "asking" "LTwicebook$Row;", Cond.fieldLink RX0 21 "Twicebook$Page" "most" "I", Cond.fieldLink RX0 25 "Twicebook$Page" "eldestBy" "C", Cond.methodLink RX0 73 yX2_become, Cond.instanceMethod yX2_become, Cond.selects RX2 yX2_become yX2_become, Cond.initialized RX2, Cond.code yX2_become cX2_become 3 none, Cond.fieldLink RX2 18 "Twicebook$Row" "count" "I", Cond.methodLink RX2 26 yX2_keyIn]
def wsX4_put_r3 : List Cond := [Cond.instanceMethod yX2_keyIn, Cond.selects RX2 yX2_keyIn yX2_keyIn, Cond.code yX2_keyIn cX2_keyIn 2 (some .int), Cond.fieldLink RX2 9 "Twicebook$Row" "keys" "[I", Cond.methodLink RX2 22 yX2_holdsPlace, Cond.instanceMethod yX2_holdsPlace, Cond.selects RX2 yX2_holdsPlace yX2_holdsPlace, Cond.code yX2_holdsPlace cX2_holdsPlace 2 (some .boolean), Cond.methodLink RX2 38 yX2_valueIn, Cond.instanceMethod yX2_valueIn, Cond.selects RX2 yX2_valueIn yX2_valueIn, Cond.code yX2_valueIn cX2_valueIn 2 (some .int), Cond.fieldLink RX2 15 "Twicebook$Row" "values" "[I", Cond.methodLink RX2 34 yX2_append, Cond.instanceMethod yX2_append, Cond.selects RX2 yX2_append yX2_append, Cond.code yX2_append cX2_append 3 none, Cond.methodLink RX4 44 yX0_holds, Cond.instanceMethod yX0_holds, Cond.selects RX0 yX0_holds yX0_holds, Cond.code yX0_holds cX0_holds 2 (some .boolean), Cond.methodLink RX0 29 yX2_find, Cond.instanceMethod yX2_find, Cond.selects RX2 yX2_find yX2_find]
def wsX4_put_r4 : List Cond := [Cond.code yX2_find cX2_find 3 (some .int), Cond.methodLink RX4 48 yX0_giveKey, Cond.instanceMethod yX0_giveKey, Cond.selects RX0 yX0_giveKey yX0_giveKey, Cond.code yX0_giveKey cX0_giveKey 3 none, Cond.methodLink RX0 36 yX2_give, Cond.instanceMethod yX2_give, Cond.selects RX2 yX2_give yX2_give, Cond.code yX2_give cX2_give 3 none, Cond.methodLink RX4 52 yX0_touch, Cond.instanceMethod yX0_touch, Cond.selects RX0 yX0_touch yX0_touch, Cond.code yX0_touch cX0_touch 2 none, Cond.methodLink RX0 40 yX2_putLast, Cond.instanceMethod yX2_putLast, Cond.selects RX2 yX2_putLast yX2_putLast, Cond.code yX2_putLast cX2_putLast 4 none, Cond.methodLink RX2 30 yX2_close, Cond.instanceMethod yX2_close, Cond.selects RX2 yX2_close yX2_close, Cond.code yX2_close cX2_close 3 none, Cond.methodLink RX4 55 yX0_letIn, Cond.instanceMethod yX0_letIn, Cond.selects RX0 yX0_letIn yX0_letIn]
def wsX4_put_r5 : List Cond := [Cond.code yX0_letIn cX0_letIn 4 (some .int), Cond.methodLink RX0 47 yX2_count, Cond.instanceMethod yX2_count, Cond.selects RX2 yX2_count yX2_count, Cond.code yX2_count cX2_count 1 (some .int), Cond.methodLink RX0 51 yX0_dropEldest, Cond.instanceMethod yX0_dropEldest, Cond.selects RX0 yX0_dropEldest yX0_dropEldest, Cond.code yX0_dropEldest cX0_dropEldest 2 (some .int), Cond.methodLink RX0 63 yX0_row, Cond.instanceMethod yX0_row, Cond.selects RX0 yX0_row yX0_row, Cond.code yX0_row cX0_row 2 (some (.object "Twicebook$Row")), Cond.methodLink RX0 67 yX2_keyIn, Cond.methodLink RX0 70 yX0_takeOut, Cond.instanceMethod yX0_takeOut, Cond.selects RX0 yX0_takeOut yX0_takeOut, Cond.code yX0_takeOut cX0_takeOut 2 none, Cond.methodLink RX0 44 yX2_close, Cond.methodLink RX0 54 yX2_append]
def wsX4_put : List Cond := .code yX4_put cX4_put 3 (some .int) :: ((wsX4_put_r1 ++ (wsX4_put_r2 ++ (wsX4_put_r3 ++ (wsX4_put_r4 ++ wsX4_put_r5)))) ++ wsX40 ++ wsX30 ++ wsX10 ++ wsX00 ++ wsX20 ++ (vx_atS RX4 80 "java/lang/IllegalArgumentException" ["java/lang/RuntimeException", "java/lang/Exception"]).filter goodWord)
def wsX4_putIfAbsent_r1 : List Cond := [Cond.fieldLink RX4 10 "Twicebook" "book" "LTwicebook$Page;", Cond.methodLink RX4 37 yX4_refuseKeyOutOfRange, Cond.instanceMethod yX4_refuseKeyOutOfRange, Cond.selects RX4 yX4_refuseKeyOutOfRange yX4_refuseKeyOutOfRange, Cond.initialized RX4, Cond.code yX4_refuseKeyOutOfRange cX4_refuseKeyOutOfRange 2 none, Cond.classLink RX4 76 "java/lang/IllegalArgumentException", Cond.initialized "java/lang/IllegalArgumentException", Cond.methodLink RX4 41 yX4_beginChange, Cond.instanceMethod yX4_beginChange, Cond.selects RX4 yX4_beginChange yX4_beginChange, Cond.code yX4_beginChange cX4_beginChange 1 none, Cond.fieldLink RX4 26 "Twicebook" "tour" "LTwicebook$Tour;", Cond.fieldLink RX4 19 "Twicebook" "past" "LTwicebook$Past;", Cond.methodLink RX4 181 yX3_end, Cond.instanceMethod yX3_end, Cond.selects RX3 yX3_end yX3_end, Cond.initialized RX3, Cond.code yX3_end cX3_end 1 none, Cond.fieldLink RX3 9 "Twicebook$Tour" "on" "Z", Cond.methodLink RX4 155 yX1_keep, Cond.instanceMethod yX1_keep, Cond.selects RX1 yX1_keep yX1_keep, Cond.initialized RX1]
def wsX4_putIfAbsent_r2 : List Cond := [Cond.code yX1_keep cX1_keep 2 none, Cond.fieldLink RX1 18 "Twicebook$Past" "free" "I", Cond.fieldLink RX1 11 "Twicebook$Past" "pages" "[LTwicebook$Page;", Cond.fieldLink RX1 22 "Twicebook$Past" "kept" "I", Cond.methodLink RX1 29 Lib.Math.min.name, Cond.static Lib.Math.min.name, Cond.initialized "java/lang/Math", Cond.code Lib.Math.min.name Lib.Math.min.code 2 (some .int), Cond.methodLink RX1 25 yX0_become, Cond.instanceMethod yX0_become, Cond.selects RX0 yX0_become yX0_become, Cond.initialized RX0, Cond.code yX0_become cX0_become 2 none, Cond.fieldLink RX0 12 "Twicebook$Page" "coming" "LTwicebook$Row;", Cond.fieldLink RX0 18 "Twicebook$Page" "asking" "LTwicebook$Row;", Cond.fieldLink RX0 21 "Twicebook$Page" "most" "I", Cond.fieldLink RX0 25 "Twicebook$Page" "eldestBy" "C", Cond.methodLink RX0 73 yX2_become, Cond.instanceMethod yX2_become, Cond.selects RX2 yX2_become yX2_become, Cond.initialized RX2, Cond.code yX2_become cX2_become 3 none, Cond.fieldLink RX2 18 "Twicebook$Row" "count" "I", Cond.methodLink RX2 26 yX2_keyIn]
def wsX4_putIfAbsent_r3 : List Cond := [Cond.instanceMethod yX2_keyIn, Cond.selects RX2 yX2_keyIn yX2_keyIn, Cond.code yX2_keyIn cX2_keyIn 2 (some .int), Cond.fieldLink RX2 9 "Twicebook$Row" "keys" "[I", Cond.methodLink RX2 22 yX2_holdsPlace, Cond.instanceMethod yX2_holdsPlace, Cond.selects RX2 yX2_holdsPlace yX2_holdsPlace, Cond.code yX2_holdsPlace cX2_holdsPlace 2 (some .boolean), Cond.methodLink RX2 38 yX2_valueIn, Cond.instanceMethod yX2_valueIn, Cond.selects RX2 yX2_valueIn yX2_valueIn, Cond.code yX2_valueIn cX2_valueIn 2 (some .int), Cond.fieldLink RX2 15 "Twicebook$Row" "values" "[I", Cond.methodLink RX2 34 yX2_append, Cond.instanceMethod yX2_append, Cond.selects RX2 yX2_append yX2_append, Cond.code yX2_append cX2_append 3 none, Cond.methodLink RX4 44 yX0_holds, Cond.instanceMethod yX0_holds, Cond.selects RX0 yX0_holds yX0_holds, Cond.code yX0_holds cX0_holds 2 (some .boolean), Cond.methodLink RX0 29 yX2_find, Cond.instanceMethod yX2_find, Cond.selects RX2 yX2_find yX2_find]
def wsX4_putIfAbsent_r4 : List Cond := [Cond.code yX2_find cX2_find 3 (some .int), Cond.methodLink RX4 52 yX0_touch, Cond.instanceMethod yX0_touch, Cond.selects RX0 yX0_touch yX0_touch, Cond.code yX0_touch cX0_touch 2 none, Cond.methodLink RX0 40 yX2_putLast, Cond.instanceMethod yX2_putLast, Cond.selects RX2 yX2_putLast yX2_putLast, Cond.code yX2_putLast cX2_putLast 4 none, Cond.methodLink RX2 30 yX2_close, Cond.instanceMethod yX2_close, Cond.selects RX2 yX2_close yX2_close, Cond.code yX2_close cX2_close 3 none, Cond.methodLink RX4 55 yX0_letIn, Cond.instanceMethod yX0_letIn, Cond.selects RX0 yX0_letIn yX0_letIn, Cond.code yX0_letIn cX0_letIn 4 (some .int), Cond.methodLink RX0 47 yX2_count, Cond.instanceMethod yX2_count, Cond.selects RX2 yX2_count yX2_count, Cond.code yX2_count cX2_count 1 (some .int), Cond.methodLink RX0 51 yX0_dropEldest, Cond.instanceMethod yX0_dropEldest, Cond.selects RX0 yX0_dropEldest yX0_dropEldest]
def wsX4_putIfAbsent_r5 : List Cond := [Cond.code yX0_dropEldest cX0_dropEldest 2 (some .int), Cond.methodLink RX0 63 yX0_row, Cond.instanceMethod yX0_row, Cond.selects RX0 yX0_row yX0_row, Cond.code yX0_row cX0_row 2 (some (.object "Twicebook$Row")), Cond.methodLink RX0 67 yX2_keyIn, Cond.methodLink RX0 70 yX0_takeOut, Cond.instanceMethod yX0_takeOut, Cond.selects RX0 yX0_takeOut yX0_takeOut, Cond.code yX0_takeOut cX0_takeOut 2 none, Cond.methodLink RX0 44 yX2_close, Cond.methodLink RX0 54 yX2_append]
def wsX4_putIfAbsent : List Cond := .code yX4_putIfAbsent cX4_putIfAbsent 3 (some .boolean) :: ((wsX4_putIfAbsent_r1 ++ (wsX4_putIfAbsent_r2 ++ (wsX4_putIfAbsent_r3 ++ (wsX4_putIfAbsent_r4 ++ wsX4_putIfAbsent_r5)))) ++ wsX40 ++ wsX30 ++ wsX10 ++ wsX00 ++ wsX20 ++ (vx_atS RX4 80 "java/lang/IllegalArgumentException" ["java/lang/RuntimeException", "java/lang/Exception"]).filter goodWord)
def wsX4_refuseAbsentKey : List Cond := .code yX4_refuseAbsentKey cX4_refuseAbsentKey 2 none :: ([.classLink RX4 142 "java/util/NoSuchElementException", .initialized "java/util/NoSuchElementException", .fieldLink RX4 10 "Twicebook" "book" "LTwicebook$Page;", .methodLink RX4 44 yX0_holds, .instanceMethod yX0_holds, .selects RX0 yX0_holds yX0_holds, .initialized RX0, .code yX0_holds cX0_holds 2 (some .boolean), .fieldLink RX0 12 "Twicebook$Page" "coming" "LTwicebook$Row;", .methodLink RX0 29 yX2_find, .instanceMethod yX2_find, .selects RX2 yX2_find yX2_find, .initialized RX2, .code yX2_find cX2_find 3 (some .int), .fieldLink RX2 18 "Twicebook$Row" "count" "I", .methodLink RX2 26 yX2_keyIn, .instanceMethod yX2_keyIn, .selects RX2 yX2_keyIn yX2_keyIn, .code yX2_keyIn cX2_keyIn 2 (some .int), .fieldLink RX2 9 "Twicebook$Row" "keys" "[I", .methodLink RX2 22 yX2_holdsPlace, .instanceMethod yX2_holdsPlace, .selects RX2 yX2_holdsPlace yX2_holdsPlace, .code yX2_holdsPlace cX2_holdsPlace 2 (some .boolean)] ++ wsX40 ++ wsX00 ++ wsX20 ++ (vx_atS RX4 146 "java/util/NoSuchElementException" ["java/lang/RuntimeException", "java/lang/Exception"]).filter goodWord)
def wsX4_get_r1 : List Cond := [Cond.fieldLink RX4 10 "Twicebook" "book" "LTwicebook$Page;", Cond.methodLink RX4 59 yX4_refuseAbsentKey, Cond.instanceMethod yX4_refuseAbsentKey, Cond.selects RX4 yX4_refuseAbsentKey yX4_refuseAbsentKey, Cond.initialized RX4, Cond.code yX4_refuseAbsentKey cX4_refuseAbsentKey 2 none, Cond.classLink RX4 142 "java/util/NoSuchElementException", Cond.initialized "java/util/NoSuchElementException", Cond.methodLink RX4 44 yX0_holds, Cond.instanceMethod yX0_holds, Cond.selects RX0 yX0_holds yX0_holds, Cond.initialized RX0, Cond.code yX0_holds cX0_holds 2 (some .boolean), Cond.fieldLink RX0 12 "Twicebook$Page" "coming" "LTwicebook$Row;", Cond.methodLink RX0 29 yX2_find, Cond.instanceMethod yX2_find, Cond.selects RX2 yX2_find yX2_find, Cond.initialized RX2, Cond.code yX2_find cX2_find 3 (some .int), Cond.fieldLink RX2 18 "Twicebook$Row" "count" "I", Cond.methodLink RX2 26 yX2_keyIn, Cond.instanceMethod yX2_keyIn, Cond.selects RX2 yX2_keyIn yX2_keyIn, Cond.code yX2_keyIn cX2_keyIn 2 (some .int)]
def wsX4_get_r2 : List Cond := [Cond.fieldLink RX2 9 "Twicebook$Row" "keys" "[I", Cond.methodLink RX2 22 yX2_holdsPlace, Cond.instanceMethod yX2_holdsPlace, Cond.selects RX2 yX2_holdsPlace yX2_holdsPlace, Cond.code yX2_holdsPlace cX2_holdsPlace 2 (some .boolean), Cond.methodLink RX4 41 yX4_beginChange, Cond.instanceMethod yX4_beginChange, Cond.selects RX4 yX4_beginChange yX4_beginChange, Cond.code yX4_beginChange cX4_beginChange 1 none, Cond.fieldLink RX4 26 "Twicebook" "tour" "LTwicebook$Tour;", Cond.fieldLink RX4 19 "Twicebook" "past" "LTwicebook$Past;", Cond.methodLink RX4 181 yX3_end, Cond.instanceMethod yX3_end, Cond.selects RX3 yX3_end yX3_end, Cond.initialized RX3, Cond.code yX3_end cX3_end 1 none, Cond.fieldLink RX3 9 "Twicebook$Tour" "on" "Z", Cond.methodLink RX4 155 yX1_keep, Cond.instanceMethod yX1_keep, Cond.selects RX1 yX1_keep yX1_keep, Cond.initialized RX1, Cond.code yX1_keep cX1_keep 2 none, Cond.fieldLink RX1 18 "Twicebook$Past" "free" "I", Cond.fieldLink RX1 11 "Twicebook$Past" "pages" "[LTwicebook$Page;"]
def wsX4_get_r3 : List Cond := [Cond.fieldLink RX1 22 "Twicebook$Past" "kept" "I", Cond.methodLink RX1 29 Lib.Math.min.name, Cond.static Lib.Math.min.name, Cond.initialized "java/lang/Math", Cond.code Lib.Math.min.name Lib.Math.min.code 2 (some .int), Cond.methodLink RX1 25 yX0_become, Cond.instanceMethod yX0_become, Cond.selects RX0 yX0_become yX0_become, Cond.code yX0_become cX0_become 2 none, Cond.fieldLink RX0 18 "Twicebook$Page" "asking" "LTwicebook$Row;", Cond.fieldLink RX0 21 "Twicebook$Page" "most" "I", Cond.fieldLink RX0 25 "Twicebook$Page" "eldestBy" "C", Cond.methodLink RX0 73 yX2_become, Cond.instanceMethod yX2_become, Cond.selects RX2 yX2_become yX2_become, Cond.code yX2_become cX2_become 3 none, Cond.methodLink RX2 38 yX2_valueIn, Cond.instanceMethod yX2_valueIn, Cond.selects RX2 yX2_valueIn yX2_valueIn, Cond.code yX2_valueIn cX2_valueIn 2 (some .int), Cond.fieldLink RX2 15 "Twicebook$Row" "values" "[I", Cond.methodLink RX2 34 yX2_append, Cond.instanceMethod yX2_append, Cond.selects RX2 yX2_append yX2_append]
def wsX4_get_r4 : List Cond := [Cond.code yX2_append cX2_append 3 none, Cond.methodLink RX4 52 yX0_touch, Cond.instanceMethod yX0_touch, Cond.selects RX0 yX0_touch yX0_touch, Cond.code yX0_touch cX0_touch 2 none, Cond.methodLink RX0 40 yX2_putLast, Cond.instanceMethod yX2_putLast, Cond.selects RX2 yX2_putLast yX2_putLast, Cond.code yX2_putLast cX2_putLast 4 none, Cond.methodLink RX2 30 yX2_close, Cond.instanceMethod yX2_close, Cond.selects RX2 yX2_close yX2_close, Cond.code yX2_close cX2_close 3 none, Cond.methodLink RX4 62 yX0_valueOf, Cond.instanceMethod yX0_valueOf, Cond.selects RX0 yX0_valueOf yX0_valueOf, Cond.code yX0_valueOf cX0_valueOf 2 (some .int), Cond.methodLink RX0 33 yX2_valueIn]
def wsX4_get : List Cond := .code yX4_get cX4_get 2 (some .int) :: ((wsX4_get_r1 ++ (wsX4_get_r2 ++ (wsX4_get_r3 ++ wsX4_get_r4))) ++ wsX40 ++ wsX00 ++ wsX20 ++ wsX30 ++ wsX10 ++ (vx_atS RX4 146 "java/util/NoSuchElementException" ["java/lang/RuntimeException", "java/lang/Exception"]).filter goodWord)
def wsX4_getOr_r1 : List Cond := [Cond.fieldLink RX4 10 "Twicebook" "book" "LTwicebook$Page;", Cond.methodLink RX4 44 yX0_holds, Cond.instanceMethod yX0_holds, Cond.selects RX0 yX0_holds yX0_holds, Cond.initialized RX0, Cond.code yX0_holds cX0_holds 2 (some .boolean), Cond.fieldLink RX0 12 "Twicebook$Page" "coming" "LTwicebook$Row;", Cond.methodLink RX0 29 yX2_find, Cond.instanceMethod yX2_find, Cond.selects RX2 yX2_find yX2_find, Cond.initialized RX2, Cond.code yX2_find cX2_find 3 (some .int), Cond.fieldLink RX2 18 "Twicebook$Row" "count" "I", Cond.methodLink RX2 26 yX2_keyIn, Cond.instanceMethod yX2_keyIn, Cond.selects RX2 yX2_keyIn yX2_keyIn, Cond.code yX2_keyIn cX2_keyIn 2 (some .int), Cond.fieldLink RX2 9 "Twicebook$Row" "keys" "[I", Cond.methodLink RX2 22 yX2_holdsPlace, Cond.instanceMethod yX2_holdsPlace, Cond.selects RX2 yX2_holdsPlace yX2_holdsPlace, Cond.code yX2_holdsPlace cX2_holdsPlace 2 (some .boolean), Cond.methodLink RX4 41 yX4_beginChange, Cond.instanceMethod yX4_beginChange]
def wsX4_getOr_r2 : List Cond := [Cond.selects RX4 yX4_beginChange yX4_beginChange, Cond.initialized RX4, Cond.code yX4_beginChange cX4_beginChange 1 none, Cond.fieldLink RX4 26 "Twicebook" "tour" "LTwicebook$Tour;", Cond.fieldLink RX4 19 "Twicebook" "past" "LTwicebook$Past;", Cond.methodLink RX4 181 yX3_end, Cond.instanceMethod yX3_end, Cond.selects RX3 yX3_end yX3_end, Cond.initialized RX3, Cond.code yX3_end cX3_end 1 none, Cond.fieldLink RX3 9 "Twicebook$Tour" "on" "Z", Cond.methodLink RX4 155 yX1_keep, Cond.instanceMethod yX1_keep, Cond.selects RX1 yX1_keep yX1_keep, Cond.initialized RX1, Cond.code yX1_keep cX1_keep 2 none, Cond.fieldLink RX1 18 "Twicebook$Past" "free" "I", Cond.fieldLink RX1 11 "Twicebook$Past" "pages" "[LTwicebook$Page;", Cond.fieldLink RX1 22 "Twicebook$Past" "kept" "I", Cond.methodLink RX1 29 Lib.Math.min.name, Cond.static Lib.Math.min.name, Cond.initialized "java/lang/Math", Cond.code Lib.Math.min.name Lib.Math.min.code 2 (some .int), Cond.methodLink RX1 25 yX0_become]
def wsX4_getOr_r3 : List Cond := [Cond.instanceMethod yX0_become, Cond.selects RX0 yX0_become yX0_become, Cond.code yX0_become cX0_become 2 none, Cond.fieldLink RX0 18 "Twicebook$Page" "asking" "LTwicebook$Row;", Cond.fieldLink RX0 21 "Twicebook$Page" "most" "I", Cond.fieldLink RX0 25 "Twicebook$Page" "eldestBy" "C", Cond.methodLink RX0 73 yX2_become, Cond.instanceMethod yX2_become, Cond.selects RX2 yX2_become yX2_become, Cond.code yX2_become cX2_become 3 none, Cond.methodLink RX2 38 yX2_valueIn, Cond.instanceMethod yX2_valueIn, Cond.selects RX2 yX2_valueIn yX2_valueIn, Cond.code yX2_valueIn cX2_valueIn 2 (some .int), Cond.fieldLink RX2 15 "Twicebook$Row" "values" "[I", Cond.methodLink RX2 34 yX2_append, Cond.instanceMethod yX2_append, Cond.selects RX2 yX2_append yX2_append, Cond.code yX2_append cX2_append 3 none, Cond.methodLink RX4 52 yX0_touch, Cond.instanceMethod yX0_touch, Cond.selects RX0 yX0_touch yX0_touch, Cond.code yX0_touch cX0_touch 2 none, Cond.methodLink RX0 40 yX2_putLast]
def wsX4_getOr_r4 : List Cond := [Cond.instanceMethod yX2_putLast, Cond.selects RX2 yX2_putLast yX2_putLast, Cond.code yX2_putLast cX2_putLast 4 none, Cond.methodLink RX2 30 yX2_close, Cond.instanceMethod yX2_close, Cond.selects RX2 yX2_close yX2_close, Cond.code yX2_close cX2_close 3 none, Cond.methodLink RX4 62 yX0_valueOf, Cond.instanceMethod yX0_valueOf, Cond.selects RX0 yX0_valueOf yX0_valueOf, Cond.code yX0_valueOf cX0_valueOf 2 (some .int), Cond.methodLink RX0 33 yX2_valueIn]
def wsX4_getOr : List Cond := .code yX4_getOr cX4_getOr 3 (some .int) :: ((wsX4_getOr_r1 ++ (wsX4_getOr_r2 ++ (wsX4_getOr_r3 ++ wsX4_getOr_r4))) ++ wsX40 ++ wsX00 ++ wsX20 ++ wsX30 ++ wsX10)
def wsX4_replace_r1 : List Cond := [Cond.fieldLink RX4 10 "Twicebook" "book" "LTwicebook$Page;", Cond.methodLink RX4 44 yX0_holds, Cond.instanceMethod yX0_holds, Cond.selects RX0 yX0_holds yX0_holds, Cond.initialized RX0, Cond.code yX0_holds cX0_holds 2 (some .boolean), Cond.fieldLink RX0 12 "Twicebook$Page" "coming" "LTwicebook$Row;", Cond.methodLink RX0 29 yX2_find, Cond.instanceMethod yX2_find, Cond.selects RX2 yX2_find yX2_find, Cond.initialized RX2, Cond.code yX2_find cX2_find 3 (some .int), Cond.fieldLink RX2 18 "Twicebook$Row" "count" "I", Cond.methodLink RX2 26 yX2_keyIn, Cond.instanceMethod yX2_keyIn, Cond.selects RX2 yX2_keyIn yX2_keyIn, Cond.code yX2_keyIn cX2_keyIn 2 (some .int), Cond.fieldLink RX2 9 "Twicebook$Row" "keys" "[I", Cond.methodLink RX2 22 yX2_holdsPlace, Cond.instanceMethod yX2_holdsPlace, Cond.selects RX2 yX2_holdsPlace yX2_holdsPlace, Cond.code yX2_holdsPlace cX2_holdsPlace 2 (some .boolean), Cond.methodLink RX4 41 yX4_beginChange, Cond.instanceMethod yX4_beginChange]
def wsX4_replace_r2 : List Cond := [Cond.selects RX4 yX4_beginChange yX4_beginChange, Cond.initialized RX4, Cond.code yX4_beginChange cX4_beginChange 1 none, Cond.fieldLink RX4 26 "Twicebook" "tour" "LTwicebook$Tour;", Cond.fieldLink RX4 19 "Twicebook" "past" "LTwicebook$Past;", Cond.methodLink RX4 181 yX3_end, Cond.instanceMethod yX3_end, Cond.selects RX3 yX3_end yX3_end, Cond.initialized RX3, Cond.code yX3_end cX3_end 1 none, Cond.fieldLink RX3 9 "Twicebook$Tour" "on" "Z", Cond.methodLink RX4 155 yX1_keep, Cond.instanceMethod yX1_keep, Cond.selects RX1 yX1_keep yX1_keep, Cond.initialized RX1, Cond.code yX1_keep cX1_keep 2 none, Cond.fieldLink RX1 18 "Twicebook$Past" "free" "I", Cond.fieldLink RX1 11 "Twicebook$Past" "pages" "[LTwicebook$Page;", Cond.fieldLink RX1 22 "Twicebook$Past" "kept" "I", Cond.methodLink RX1 29 Lib.Math.min.name, Cond.static Lib.Math.min.name, Cond.initialized "java/lang/Math", Cond.code Lib.Math.min.name Lib.Math.min.code 2 (some .int), Cond.methodLink RX1 25 yX0_become]
def wsX4_replace_r3 : List Cond := [Cond.instanceMethod yX0_become, Cond.selects RX0 yX0_become yX0_become, Cond.code yX0_become cX0_become 2 none, Cond.fieldLink RX0 18 "Twicebook$Page" "asking" "LTwicebook$Row;", Cond.fieldLink RX0 21 "Twicebook$Page" "most" "I", Cond.fieldLink RX0 25 "Twicebook$Page" "eldestBy" "C", Cond.methodLink RX0 73 yX2_become, Cond.instanceMethod yX2_become, Cond.selects RX2 yX2_become yX2_become, Cond.code yX2_become cX2_become 3 none, Cond.methodLink RX2 38 yX2_valueIn, Cond.instanceMethod yX2_valueIn, Cond.selects RX2 yX2_valueIn yX2_valueIn, Cond.code yX2_valueIn cX2_valueIn 2 (some .int), Cond.fieldLink RX2 15 "Twicebook$Row" "values" "[I", Cond.methodLink RX2 34 yX2_append, Cond.instanceMethod yX2_append, Cond.selects RX2 yX2_append yX2_append, Cond.code yX2_append cX2_append 3 none, Cond.methodLink RX4 48 yX0_giveKey, Cond.instanceMethod yX0_giveKey, Cond.selects RX0 yX0_giveKey yX0_giveKey, Cond.code yX0_giveKey cX0_giveKey 3 none, Cond.methodLink RX0 36 yX2_give]
def wsX4_replace_r4 : List Cond := [Cond.instanceMethod yX2_give, Cond.selects RX2 yX2_give yX2_give, Cond.code yX2_give cX2_give 3 none, Cond.methodLink RX4 52 yX0_touch, Cond.instanceMethod yX0_touch, Cond.selects RX0 yX0_touch yX0_touch, Cond.code yX0_touch cX0_touch 2 none, Cond.methodLink RX0 40 yX2_putLast, Cond.instanceMethod yX2_putLast, Cond.selects RX2 yX2_putLast yX2_putLast, Cond.code yX2_putLast cX2_putLast 4 none, Cond.methodLink RX2 30 yX2_close, Cond.instanceMethod yX2_close, Cond.selects RX2 yX2_close yX2_close, Cond.code yX2_close cX2_close 3 none]
def wsX4_replace : List Cond := .code yX4_replace cX4_replace 3 (some .boolean) :: ((wsX4_replace_r1 ++ (wsX4_replace_r2 ++ (wsX4_replace_r3 ++ wsX4_replace_r4))) ++ wsX40 ++ wsX00 ++ wsX20 ++ wsX30 ++ wsX10)
def wsX4_replaceIf_r1 : List Cond := [Cond.fieldLink RX4 10 "Twicebook" "book" "LTwicebook$Page;", Cond.methodLink RX4 44 yX0_holds, Cond.instanceMethod yX0_holds, Cond.selects RX0 yX0_holds yX0_holds, Cond.initialized RX0, Cond.code yX0_holds cX0_holds 2 (some .boolean), Cond.fieldLink RX0 12 "Twicebook$Page" "coming" "LTwicebook$Row;", Cond.methodLink RX0 29 yX2_find, Cond.instanceMethod yX2_find, Cond.selects RX2 yX2_find yX2_find, Cond.initialized RX2, Cond.code yX2_find cX2_find 3 (some .int), Cond.fieldLink RX2 18 "Twicebook$Row" "count" "I", Cond.methodLink RX2 26 yX2_keyIn, Cond.instanceMethod yX2_keyIn, Cond.selects RX2 yX2_keyIn yX2_keyIn, Cond.code yX2_keyIn cX2_keyIn 2 (some .int), Cond.fieldLink RX2 9 "Twicebook$Row" "keys" "[I", Cond.methodLink RX2 22 yX2_holdsPlace, Cond.instanceMethod yX2_holdsPlace, Cond.selects RX2 yX2_holdsPlace yX2_holdsPlace, Cond.code yX2_holdsPlace cX2_holdsPlace 2 (some .boolean), Cond.methodLink RX4 62 yX0_valueOf, Cond.instanceMethod yX0_valueOf]
def wsX4_replaceIf_r2 : List Cond := [Cond.selects RX0 yX0_valueOf yX0_valueOf, Cond.code yX0_valueOf cX0_valueOf 2 (some .int), Cond.methodLink RX0 33 yX2_valueIn, Cond.instanceMethod yX2_valueIn, Cond.selects RX2 yX2_valueIn yX2_valueIn, Cond.code yX2_valueIn cX2_valueIn 2 (some .int), Cond.fieldLink RX2 15 "Twicebook$Row" "values" "[I", Cond.methodLink RX4 41 yX4_beginChange, Cond.instanceMethod yX4_beginChange, Cond.selects RX4 yX4_beginChange yX4_beginChange, Cond.initialized RX4, Cond.code yX4_beginChange cX4_beginChange 1 none, Cond.fieldLink RX4 26 "Twicebook" "tour" "LTwicebook$Tour;", Cond.fieldLink RX4 19 "Twicebook" "past" "LTwicebook$Past;", Cond.methodLink RX4 181 yX3_end, Cond.instanceMethod yX3_end, Cond.selects RX3 yX3_end yX3_end, Cond.initialized RX3, Cond.code yX3_end cX3_end 1 none, Cond.fieldLink RX3 9 "Twicebook$Tour" "on" "Z", Cond.methodLink RX4 155 yX1_keep, Cond.instanceMethod yX1_keep, Cond.selects RX1 yX1_keep yX1_keep, Cond.initialized RX1]
def wsX4_replaceIf_r3 : List Cond := [Cond.code yX1_keep cX1_keep 2 none, Cond.fieldLink RX1 18 "Twicebook$Past" "free" "I", Cond.fieldLink RX1 11 "Twicebook$Past" "pages" "[LTwicebook$Page;", Cond.fieldLink RX1 22 "Twicebook$Past" "kept" "I", Cond.methodLink RX1 29 Lib.Math.min.name, Cond.static Lib.Math.min.name, Cond.initialized "java/lang/Math", Cond.code Lib.Math.min.name Lib.Math.min.code 2 (some .int), Cond.methodLink RX1 25 yX0_become, Cond.instanceMethod yX0_become, Cond.selects RX0 yX0_become yX0_become, Cond.code yX0_become cX0_become 2 none, Cond.fieldLink RX0 18 "Twicebook$Page" "asking" "LTwicebook$Row;", Cond.fieldLink RX0 21 "Twicebook$Page" "most" "I", Cond.fieldLink RX0 25 "Twicebook$Page" "eldestBy" "C", Cond.methodLink RX0 73 yX2_become, Cond.instanceMethod yX2_become, Cond.selects RX2 yX2_become yX2_become, Cond.code yX2_become cX2_become 3 none, Cond.methodLink RX2 38 yX2_valueIn, Cond.methodLink RX2 34 yX2_append, Cond.instanceMethod yX2_append, Cond.selects RX2 yX2_append yX2_append, Cond.code yX2_append cX2_append 3 none]
def wsX4_replaceIf_r4 : List Cond := [Cond.methodLink RX4 48 yX0_giveKey, Cond.instanceMethod yX0_giveKey, Cond.selects RX0 yX0_giveKey yX0_giveKey, Cond.code yX0_giveKey cX0_giveKey 3 none, Cond.methodLink RX0 36 yX2_give, Cond.instanceMethod yX2_give, Cond.selects RX2 yX2_give yX2_give, Cond.code yX2_give cX2_give 3 none, Cond.methodLink RX4 52 yX0_touch, Cond.instanceMethod yX0_touch, Cond.selects RX0 yX0_touch yX0_touch, Cond.code yX0_touch cX0_touch 2 none, Cond.methodLink RX0 40 yX2_putLast, Cond.instanceMethod yX2_putLast, Cond.selects RX2 yX2_putLast yX2_putLast, Cond.code yX2_putLast cX2_putLast 4 none, Cond.methodLink RX2 30 yX2_close, Cond.instanceMethod yX2_close, Cond.selects RX2 yX2_close yX2_close, Cond.code yX2_close cX2_close 3 none]
def wsX4_replaceIf : List Cond := .code yX4_replaceIf cX4_replaceIf 4 (some .boolean) :: ((wsX4_replaceIf_r1 ++ (wsX4_replaceIf_r2 ++ (wsX4_replaceIf_r3 ++ wsX4_replaceIf_r4))) ++ wsX40 ++ wsX00 ++ wsX20 ++ wsX30 ++ wsX10)
def wsX4_look_r1 : List Cond := [Cond.fieldLink RX4 10 "Twicebook" "book" "LTwicebook$Page;", Cond.methodLink RX4 59 yX4_refuseAbsentKey, Cond.instanceMethod yX4_refuseAbsentKey, Cond.selects RX4 yX4_refuseAbsentKey yX4_refuseAbsentKey, Cond.initialized RX4, Cond.code yX4_refuseAbsentKey cX4_refuseAbsentKey 2 none, Cond.classLink RX4 142 "java/util/NoSuchElementException", Cond.initialized "java/util/NoSuchElementException", Cond.methodLink RX4 44 yX0_holds, Cond.instanceMethod yX0_holds, Cond.selects RX0 yX0_holds yX0_holds, Cond.initialized RX0, Cond.code yX0_holds cX0_holds 2 (some .boolean), Cond.fieldLink RX0 12 "Twicebook$Page" "coming" "LTwicebook$Row;", Cond.methodLink RX0 29 yX2_find, Cond.instanceMethod yX2_find, Cond.selects RX2 yX2_find yX2_find, Cond.initialized RX2, Cond.code yX2_find cX2_find 3 (some .int), Cond.fieldLink RX2 18 "Twicebook$Row" "count" "I", Cond.methodLink RX2 26 yX2_keyIn, Cond.instanceMethod yX2_keyIn, Cond.selects RX2 yX2_keyIn yX2_keyIn, Cond.code yX2_keyIn cX2_keyIn 2 (some .int)]
def wsX4_look_r2 : List Cond := [Cond.fieldLink RX2 9 "Twicebook$Row" "keys" "[I", Cond.methodLink RX2 22 yX2_holdsPlace, Cond.instanceMethod yX2_holdsPlace, Cond.selects RX2 yX2_holdsPlace yX2_holdsPlace, Cond.code yX2_holdsPlace cX2_holdsPlace 2 (some .boolean), Cond.methodLink RX4 62 yX0_valueOf, Cond.instanceMethod yX0_valueOf, Cond.selects RX0 yX0_valueOf yX0_valueOf, Cond.code yX0_valueOf cX0_valueOf 2 (some .int), Cond.methodLink RX0 33 yX2_valueIn, Cond.instanceMethod yX2_valueIn, Cond.selects RX2 yX2_valueIn yX2_valueIn, Cond.code yX2_valueIn cX2_valueIn 2 (some .int), Cond.fieldLink RX2 15 "Twicebook$Row" "values" "[I"]
def wsX4_look : List Cond := .code yX4_look cX4_look 2 (some .int) :: ((wsX4_look_r1 ++ wsX4_look_r2) ++ wsX40 ++ wsX00 ++ wsX20 ++ (vx_atS RX4 146 "java/util/NoSuchElementException" ["java/lang/RuntimeException", "java/lang/Exception"]).filter goodWord)
def wsX4_has : List Cond := .code yX4_has cX4_has 2 (some .boolean) :: ([.fieldLink RX4 10 "Twicebook" "book" "LTwicebook$Page;", .methodLink RX4 44 yX0_holds, .instanceMethod yX0_holds, .selects RX0 yX0_holds yX0_holds, .initialized RX0, .code yX0_holds cX0_holds 2 (some .boolean), .fieldLink RX0 12 "Twicebook$Page" "coming" "LTwicebook$Row;", .methodLink RX0 29 yX2_find, .instanceMethod yX2_find, .selects RX2 yX2_find yX2_find, .initialized RX2, .code yX2_find cX2_find 3 (some .int), .fieldLink RX2 18 "Twicebook$Row" "count" "I", .methodLink RX2 26 yX2_keyIn, .instanceMethod yX2_keyIn, .selects RX2 yX2_keyIn yX2_keyIn, .code yX2_keyIn cX2_keyIn 2 (some .int), .fieldLink RX2 9 "Twicebook$Row" "keys" "[I", .methodLink RX2 22 yX2_holdsPlace, .instanceMethod yX2_holdsPlace, .selects RX2 yX2_holdsPlace yX2_holdsPlace, .code yX2_holdsPlace cX2_holdsPlace 2 (some .boolean)] ++ wsX40 ++ wsX00 ++ wsX20)
def wsX4_remove_r1 : List Cond := [Cond.fieldLink RX4 10 "Twicebook" "book" "LTwicebook$Page;", Cond.methodLink RX4 59 yX4_refuseAbsentKey, Cond.instanceMethod yX4_refuseAbsentKey, Cond.selects RX4 yX4_refuseAbsentKey yX4_refuseAbsentKey, Cond.initialized RX4, Cond.code yX4_refuseAbsentKey cX4_refuseAbsentKey 2 none, Cond.classLink RX4 142 "java/util/NoSuchElementException", Cond.initialized "java/util/NoSuchElementException", Cond.methodLink RX4 44 yX0_holds, Cond.instanceMethod yX0_holds, Cond.selects RX0 yX0_holds yX0_holds, Cond.initialized RX0, Cond.code yX0_holds cX0_holds 2 (some .boolean), Cond.fieldLink RX0 12 "Twicebook$Page" "coming" "LTwicebook$Row;", Cond.methodLink RX0 29 yX2_find, Cond.instanceMethod yX2_find, Cond.selects RX2 yX2_find yX2_find, Cond.initialized RX2, Cond.code yX2_find cX2_find 3 (some .int), Cond.fieldLink RX2 18 "Twicebook$Row" "count" "I", Cond.methodLink RX2 26 yX2_keyIn, Cond.instanceMethod yX2_keyIn, Cond.selects RX2 yX2_keyIn yX2_keyIn, Cond.code yX2_keyIn cX2_keyIn 2 (some .int)]
def wsX4_remove_r2 : List Cond := [Cond.fieldLink RX2 9 "Twicebook$Row" "keys" "[I", Cond.methodLink RX2 22 yX2_holdsPlace, Cond.instanceMethod yX2_holdsPlace, Cond.selects RX2 yX2_holdsPlace yX2_holdsPlace, Cond.code yX2_holdsPlace cX2_holdsPlace 2 (some .boolean), Cond.methodLink RX4 62 yX0_valueOf, Cond.instanceMethod yX0_valueOf, Cond.selects RX0 yX0_valueOf yX0_valueOf, Cond.code yX0_valueOf cX0_valueOf 2 (some .int), Cond.methodLink RX0 33 yX2_valueIn, Cond.instanceMethod yX2_valueIn, Cond.selects RX2 yX2_valueIn yX2_valueIn, Cond.code yX2_valueIn cX2_valueIn 2 (some .int), Cond.fieldLink RX2 15 "Twicebook$Row" "values" "[I", Cond.methodLink RX4 41 yX4_beginChange, Cond.instanceMethod yX4_beginChange, Cond.selects RX4 yX4_beginChange yX4_beginChange, Cond.code yX4_beginChange cX4_beginChange 1 none, Cond.fieldLink RX4 26 "Twicebook" "tour" "LTwicebook$Tour;", Cond.fieldLink RX4 19 "Twicebook" "past" "LTwicebook$Past;", Cond.methodLink RX4 181 yX3_end, Cond.instanceMethod yX3_end, Cond.selects RX3 yX3_end yX3_end, Cond.initialized RX3]
def wsX4_remove_r3 : List Cond := [Cond.code yX3_end cX3_end 1 none, Cond.fieldLink RX3 9 "Twicebook$Tour" "on" "Z", Cond.methodLink RX4 155 yX1_keep, Cond.instanceMethod yX1_keep, Cond.selects RX1 yX1_keep yX1_keep, Cond.initialized RX1, Cond.code yX1_keep cX1_keep 2 none, Cond.fieldLink RX1 18 "Twicebook$Past" "free" "I", Cond.fieldLink RX1 11 "Twicebook$Past" "pages" "[LTwicebook$Page;", Cond.fieldLink RX1 22 "Twicebook$Past" "kept" "I", Cond.methodLink RX1 29 Lib.Math.min.name, Cond.static Lib.Math.min.name, Cond.initialized "java/lang/Math", Cond.code Lib.Math.min.name Lib.Math.min.code 2 (some .int), Cond.methodLink RX1 25 yX0_become, Cond.instanceMethod yX0_become, Cond.selects RX0 yX0_become yX0_become, Cond.code yX0_become cX0_become 2 none, Cond.fieldLink RX0 18 "Twicebook$Page" "asking" "LTwicebook$Row;", Cond.fieldLink RX0 21 "Twicebook$Page" "most" "I", Cond.fieldLink RX0 25 "Twicebook$Page" "eldestBy" "C", Cond.methodLink RX0 73 yX2_become, Cond.instanceMethod yX2_become, Cond.selects RX2 yX2_become yX2_become]
def wsX4_remove_r4 : List Cond := [Cond.code yX2_become cX2_become 3 none, Cond.methodLink RX2 38 yX2_valueIn, Cond.methodLink RX2 34 yX2_append, Cond.instanceMethod yX2_append, Cond.selects RX2 yX2_append yX2_append, Cond.code yX2_append cX2_append 3 none, Cond.methodLink RX4 66 yX0_takeOut, Cond.instanceMethod yX0_takeOut, Cond.selects RX0 yX0_takeOut yX0_takeOut, Cond.code yX0_takeOut cX0_takeOut 2 none, Cond.methodLink RX0 44 yX2_close, Cond.instanceMethod yX2_close, Cond.selects RX2 yX2_close yX2_close, Cond.code yX2_close cX2_close 3 none]
def wsX4_remove : List Cond := .code yX4_remove cX4_remove 3 (some .int) :: ((wsX4_remove_r1 ++ (wsX4_remove_r2 ++ (wsX4_remove_r3 ++ wsX4_remove_r4))) ++ wsX40 ++ wsX00 ++ wsX20 ++ wsX30 ++ wsX10 ++ (vx_atS RX4 146 "java/util/NoSuchElementException" ["java/lang/RuntimeException", "java/lang/Exception"]).filter goodWord)
def wsX4_size : List Cond := .code yX4_size cX4_size 1 (some .int) :: ([.fieldLink RX4 10 "Twicebook" "book" "LTwicebook$Page;", .methodLink RX4 72 yX2_count, .instanceMethod yX2_count, .selects RX2 yX2_count yX2_count, .initialized RX2, .code yX2_count cX2_count 1 (some .int), .fieldLink RX2 18 "Twicebook$Row" "count" "I"] ++ wsX40 ++ wsX00 ++ wsX20)
def wsX4_limit_r1 : List Cond := [Cond.classLink RX4 76 "java/lang/IllegalArgumentException", Cond.initialized "java/lang/IllegalArgumentException", Cond.fieldLink RX4 10 "Twicebook" "book" "LTwicebook$Page;", Cond.methodLink RX4 41 yX4_beginChange, Cond.instanceMethod yX4_beginChange, Cond.selects RX4 yX4_beginChange yX4_beginChange, Cond.initialized RX4, Cond.code yX4_beginChange cX4_beginChange 1 none, Cond.fieldLink RX4 26 "Twicebook" "tour" "LTwicebook$Tour;", Cond.fieldLink RX4 19 "Twicebook" "past" "LTwicebook$Past;", Cond.methodLink RX4 181 yX3_end, Cond.instanceMethod yX3_end, Cond.selects RX3 yX3_end yX3_end, Cond.initialized RX3, Cond.code yX3_end cX3_end 1 none, Cond.fieldLink RX3 9 "Twicebook$Tour" "on" "Z", Cond.methodLink RX4 155 yX1_keep, Cond.instanceMethod yX1_keep, Cond.selects RX1 yX1_keep yX1_keep, Cond.initialized RX1, Cond.code yX1_keep cX1_keep 2 none, Cond.fieldLink RX1 18 "Twicebook$Past" "free" "I", Cond.fieldLink RX1 11 "Twicebook$Past" "pages" "[LTwicebook$Page;", Cond.fieldLink RX1 22 "Twicebook$Past" "kept" "I"]
def wsX4_limit_r2 : List Cond := [Cond.methodLink RX1 29 Lib.Math.min.name, Cond.static Lib.Math.min.name, Cond.initialized "java/lang/Math", Cond.code Lib.Math.min.name Lib.Math.min.code 2 (some .int), Cond.methodLink RX1 25 yX0_become, Cond.instanceMethod yX0_become, Cond.selects RX0 yX0_become yX0_become, Cond.initialized RX0, Cond.code yX0_become cX0_become 2 none, Cond.fieldLink RX0 12 "Twicebook$Page" "coming" "LTwicebook$Row;", Cond.fieldLink RX0 18 "Twicebook$Page" "asking" "LTwicebook$Row;", Cond.fieldLink RX0 21 "Twicebook$Page" "most" "I", Cond.fieldLink RX0 25 "Twicebook$Page" "eldestBy" "C", Cond.methodLink RX0 73 yX2_become, Cond.instanceMethod yX2_become, Cond.selects RX2 yX2_become yX2_become, Cond.initialized RX2, Cond.code yX2_become cX2_become 3 none, Cond.fieldLink RX2 18 "Twicebook$Row" "count" "I", Cond.methodLink RX2 26 yX2_keyIn, Cond.instanceMethod yX2_keyIn, Cond.selects RX2 yX2_keyIn yX2_keyIn, Cond.code yX2_keyIn cX2_keyIn 2 (some .int), Cond.fieldLink RX2 9 "Twicebook$Row" "keys" "[I"]
def wsX4_limit_r3 : List Cond := [Cond.methodLink RX2 22 yX2_holdsPlace, Cond.instanceMethod yX2_holdsPlace, Cond.selects RX2 yX2_holdsPlace yX2_holdsPlace, Cond.code yX2_holdsPlace cX2_holdsPlace 2 (some .boolean), Cond.methodLink RX2 38 yX2_valueIn, Cond.instanceMethod yX2_valueIn, Cond.selects RX2 yX2_valueIn yX2_valueIn, Cond.code yX2_valueIn cX2_valueIn 2 (some .int), Cond.fieldLink RX2 15 "Twicebook$Row" "values" "[I", Cond.methodLink RX2 34 yX2_append, Cond.instanceMethod yX2_append, Cond.selects RX2 yX2_append yX2_append, Cond.code yX2_append cX2_append 3 none, Cond.methodLink RX4 87 yX0_dropWhatIsOver, Cond.instanceMethod yX0_dropWhatIsOver, Cond.selects RX0 yX0_dropWhatIsOver yX0_dropWhatIsOver, Cond.code yX0_dropWhatIsOver cX0_dropWhatIsOver 3 (some .int), Cond.methodLink RX0 57 Lib.Math.max.name, Cond.static Lib.Math.max.name, Cond.code Lib.Math.max.name Lib.Math.max.code 2 (some .int), Cond.methodLink RX0 47 yX2_count, Cond.instanceMethod yX2_count, Cond.selects RX2 yX2_count yX2_count, Cond.code yX2_count cX2_count 1 (some .int)]
def wsX4_limit_r4 : List Cond := [Cond.methodLink RX0 51 yX0_dropEldest, Cond.instanceMethod yX0_dropEldest, Cond.selects RX0 yX0_dropEldest yX0_dropEldest, Cond.code yX0_dropEldest cX0_dropEldest 2 (some .int), Cond.methodLink RX0 63 yX0_row, Cond.instanceMethod yX0_row, Cond.selects RX0 yX0_row yX0_row, Cond.code yX0_row cX0_row 2 (some (.object "Twicebook$Row")), Cond.methodLink RX0 67 yX2_keyIn, Cond.methodLink RX0 70 yX0_takeOut, Cond.instanceMethod yX0_takeOut, Cond.selects RX0 yX0_takeOut yX0_takeOut, Cond.code yX0_takeOut cX0_takeOut 2 none, Cond.methodLink RX0 29 yX2_find, Cond.instanceMethod yX2_find, Cond.selects RX2 yX2_find yX2_find, Cond.code yX2_find cX2_find 3 (some .int), Cond.methodLink RX0 44 yX2_close, Cond.instanceMethod yX2_close, Cond.selects RX2 yX2_close yX2_close, Cond.code yX2_close cX2_close 3 none]
def wsX4_limit : List Cond := .code yX4_limit cX4_limit 2 (some .int) :: ((wsX4_limit_r1 ++ (wsX4_limit_r2 ++ (wsX4_limit_r3 ++ wsX4_limit_r4))) ++ wsX40 ++ wsX00 ++ wsX30 ++ wsX10 ++ wsX20 ++ (vx_atS RX4 80 "java/lang/IllegalArgumentException" ["java/lang/RuntimeException", "java/lang/Exception"]).filter goodWord)
def wsX4_refuseUnknownOrder : List Cond := .code yX4_refuseUnknownOrder cX4_refuseUnknownOrder 2 none :: ([.classLink RX4 76 "java/lang/IllegalArgumentException", .initialized "java/lang/IllegalArgumentException"] ++ (vx_atS RX4 80 "java/lang/IllegalArgumentException" ["java/lang/RuntimeException", "java/lang/Exception"]).filter goodWord)
def wsX4_way_r1 : List Cond := [Cond.fieldLink RX4 10 "Twicebook" "book" "LTwicebook$Page;", Cond.methodLink RX4 90 yX4_refuseUnknownOrder, Cond.instanceMethod yX4_refuseUnknownOrder, Cond.selects RX4 yX4_refuseUnknownOrder yX4_refuseUnknownOrder, Cond.initialized RX4, Cond.code yX4_refuseUnknownOrder cX4_refuseUnknownOrder 2 none, Cond.classLink RX4 76 "java/lang/IllegalArgumentException", Cond.initialized "java/lang/IllegalArgumentException", Cond.methodLink RX4 41 yX4_beginChange, Cond.instanceMethod yX4_beginChange, Cond.selects RX4 yX4_beginChange yX4_beginChange, Cond.code yX4_beginChange cX4_beginChange 1 none, Cond.fieldLink RX4 26 "Twicebook" "tour" "LTwicebook$Tour;", Cond.fieldLink RX4 19 "Twicebook" "past" "LTwicebook$Past;", Cond.methodLink RX4 181 yX3_end, Cond.instanceMethod yX3_end, Cond.selects RX3 yX3_end yX3_end, Cond.initialized RX3, Cond.code yX3_end cX3_end 1 none, Cond.fieldLink RX3 9 "Twicebook$Tour" "on" "Z", Cond.methodLink RX4 155 yX1_keep, Cond.instanceMethod yX1_keep, Cond.selects RX1 yX1_keep yX1_keep, Cond.initialized RX1]
def wsX4_way_r2 : List Cond := [Cond.code yX1_keep cX1_keep 2 none, Cond.fieldLink RX1 18 "Twicebook$Past" "free" "I", Cond.fieldLink RX1 11 "Twicebook$Past" "pages" "[LTwicebook$Page;", Cond.fieldLink RX1 22 "Twicebook$Past" "kept" "I", Cond.methodLink RX1 29 Lib.Math.min.name, Cond.static Lib.Math.min.name, Cond.initialized "java/lang/Math", Cond.code Lib.Math.min.name Lib.Math.min.code 2 (some .int), Cond.methodLink RX1 25 yX0_become, Cond.instanceMethod yX0_become, Cond.selects RX0 yX0_become yX0_become, Cond.initialized RX0, Cond.code yX0_become cX0_become 2 none, Cond.fieldLink RX0 12 "Twicebook$Page" "coming" "LTwicebook$Row;", Cond.fieldLink RX0 18 "Twicebook$Page" "asking" "LTwicebook$Row;", Cond.fieldLink RX0 21 "Twicebook$Page" "most" "I", Cond.fieldLink RX0 25 "Twicebook$Page" "eldestBy" "C", Cond.methodLink RX0 73 yX2_become, Cond.instanceMethod yX2_become, Cond.selects RX2 yX2_become yX2_become, Cond.initialized RX2, Cond.code yX2_become cX2_become 3 none, Cond.fieldLink RX2 18 "Twicebook$Row" "count" "I", Cond.methodLink RX2 26 yX2_keyIn]
def wsX4_way_r3 : List Cond := [Cond.instanceMethod yX2_keyIn, Cond.selects RX2 yX2_keyIn yX2_keyIn, Cond.code yX2_keyIn cX2_keyIn 2 (some .int), Cond.fieldLink RX2 9 "Twicebook$Row" "keys" "[I", Cond.methodLink RX2 22 yX2_holdsPlace, Cond.instanceMethod yX2_holdsPlace, Cond.selects RX2 yX2_holdsPlace yX2_holdsPlace, Cond.code yX2_holdsPlace cX2_holdsPlace 2 (some .boolean), Cond.methodLink RX2 38 yX2_valueIn, Cond.instanceMethod yX2_valueIn, Cond.selects RX2 yX2_valueIn yX2_valueIn, Cond.code yX2_valueIn cX2_valueIn 2 (some .int), Cond.fieldLink RX2 15 "Twicebook$Row" "values" "[I", Cond.methodLink RX2 34 yX2_append, Cond.instanceMethod yX2_append, Cond.selects RX2 yX2_append yX2_append, Cond.code yX2_append cX2_append 3 none]
def wsX4_way : List Cond := .code yX4_way cX4_way 3 (some .char) :: ((wsX4_way_r1 ++ (wsX4_way_r2 ++ wsX4_way_r3)) ++ wsX40 ++ wsX00 ++ wsX30 ++ wsX10 ++ wsX20 ++ (vx_atS RX4 80 "java/lang/IllegalArgumentException" ["java/lang/RuntimeException", "java/lang/Exception"]).filter goodWord)
def wsX4_refuseUnknownPlace : List Cond := .code yX4_refuseUnknownPlace cX4_refuseUnknownPlace 2 none :: ([.classLink RX4 165 "java/lang/IndexOutOfBoundsException", .initialized "java/lang/IndexOutOfBoundsException", .fieldLink RX4 10 "Twicebook" "book" "LTwicebook$Page;", .methodLink RX4 139 yX2_holdsPlace, .instanceMethod yX2_holdsPlace, .selects RX2 yX2_holdsPlace yX2_holdsPlace, .initialized RX2, .code yX2_holdsPlace cX2_holdsPlace 2 (some .boolean), .fieldLink RX2 18 "Twicebook$Row" "count" "I", .fieldLink RX2 9 "Twicebook$Row" "keys" "[I"] ++ wsX40 ++ wsX00 ++ wsX20 ++ (vx_atS RX4 169 "java/lang/IndexOutOfBoundsException" ["java/lang/RuntimeException", "java/lang/Exception"]).filter goodWord)
def wsX4_keyAt_r1 : List Cond := [Cond.fieldLink RX4 10 "Twicebook" "book" "LTwicebook$Page;", Cond.methodLink RX4 90 yX4_refuseUnknownOrder, Cond.instanceMethod yX4_refuseUnknownOrder, Cond.selects RX4 yX4_refuseUnknownOrder yX4_refuseUnknownOrder, Cond.initialized RX4, Cond.code yX4_refuseUnknownOrder cX4_refuseUnknownOrder 2 none, Cond.classLink RX4 76 "java/lang/IllegalArgumentException", Cond.initialized "java/lang/IllegalArgumentException", Cond.methodLink RX4 98 yX4_refuseUnknownPlace, Cond.instanceMethod yX4_refuseUnknownPlace, Cond.selects RX4 yX4_refuseUnknownPlace yX4_refuseUnknownPlace, Cond.code yX4_refuseUnknownPlace cX4_refuseUnknownPlace 2 none, Cond.classLink RX4 165 "java/lang/IndexOutOfBoundsException", Cond.initialized "java/lang/IndexOutOfBoundsException", Cond.methodLink RX4 139 yX2_holdsPlace, Cond.instanceMethod yX2_holdsPlace, Cond.selects RX2 yX2_holdsPlace yX2_holdsPlace, Cond.initialized RX2, Cond.code yX2_holdsPlace cX2_holdsPlace 2 (some .boolean), Cond.fieldLink RX2 18 "Twicebook$Row" "count" "I", Cond.fieldLink RX2 9 "Twicebook$Row" "keys" "[I", Cond.methodLink RX4 101 yX0_row, Cond.instanceMethod yX0_row, Cond.selects RX0 yX0_row yX0_row]
def wsX4_keyAt_r2 : List Cond := [Cond.initialized RX0, Cond.code yX0_row cX0_row 2 (some (.object "Twicebook$Row")), Cond.fieldLink RX0 18 "Twicebook$Page" "asking" "LTwicebook$Row;", Cond.fieldLink RX0 12 "Twicebook$Page" "coming" "LTwicebook$Row;", Cond.methodLink RX4 105 yX2_keyIn, Cond.instanceMethod yX2_keyIn, Cond.selects RX2 yX2_keyIn yX2_keyIn, Cond.code yX2_keyIn cX2_keyIn 2 (some .int), Cond.methodLink RX2 22 yX2_holdsPlace]
def wsX4_keyAt : List Cond := .code yX4_keyAt cX4_keyAt 3 (some .int) :: ((wsX4_keyAt_r1 ++ wsX4_keyAt_r2) ++ wsX40 ++ wsX00 ++ wsX20 ++ (vx_atS RX4 80 "java/lang/IllegalArgumentException" ["java/lang/RuntimeException", "java/lang/Exception"]).filter goodWord ++ (vx_atS RX4 169 "java/lang/IndexOutOfBoundsException" ["java/lang/RuntimeException", "java/lang/Exception"]).filter goodWord)
def wsX4_placeOf_r1 : List Cond := [Cond.fieldLink RX4 10 "Twicebook" "book" "LTwicebook$Page;", Cond.methodLink RX4 90 yX4_refuseUnknownOrder, Cond.instanceMethod yX4_refuseUnknownOrder, Cond.selects RX4 yX4_refuseUnknownOrder yX4_refuseUnknownOrder, Cond.initialized RX4, Cond.code yX4_refuseUnknownOrder cX4_refuseUnknownOrder 2 none, Cond.classLink RX4 76 "java/lang/IllegalArgumentException", Cond.initialized "java/lang/IllegalArgumentException", Cond.methodLink RX4 59 yX4_refuseAbsentKey, Cond.instanceMethod yX4_refuseAbsentKey, Cond.selects RX4 yX4_refuseAbsentKey yX4_refuseAbsentKey, Cond.code yX4_refuseAbsentKey cX4_refuseAbsentKey 2 none, Cond.classLink RX4 142 "java/util/NoSuchElementException", Cond.initialized "java/util/NoSuchElementException", Cond.methodLink RX4 44 yX0_holds, Cond.instanceMethod yX0_holds, Cond.selects RX0 yX0_holds yX0_holds, Cond.initialized RX0, Cond.code yX0_holds cX0_holds 2 (some .boolean), Cond.fieldLink RX0 12 "Twicebook$Page" "coming" "LTwicebook$Row;", Cond.methodLink RX0 29 yX2_find, Cond.instanceMethod yX2_find, Cond.selects RX2 yX2_find yX2_find, Cond.initialized RX2]
def wsX4_placeOf_r2 : List Cond := [Cond.code yX2_find cX2_find 3 (some .int), Cond.fieldLink RX2 18 "Twicebook$Row" "count" "I", Cond.methodLink RX2 26 yX2_keyIn, Cond.instanceMethod yX2_keyIn, Cond.selects RX2 yX2_keyIn yX2_keyIn, Cond.code yX2_keyIn cX2_keyIn 2 (some .int), Cond.fieldLink RX2 9 "Twicebook$Row" "keys" "[I", Cond.methodLink RX2 22 yX2_holdsPlace, Cond.instanceMethod yX2_holdsPlace, Cond.selects RX2 yX2_holdsPlace yX2_holdsPlace, Cond.code yX2_holdsPlace cX2_holdsPlace 2 (some .boolean), Cond.methodLink RX4 101 yX0_row, Cond.instanceMethod yX0_row, Cond.selects RX0 yX0_row yX0_row, Cond.code yX0_row cX0_row 2 (some (.object "Twicebook$Row")), Cond.fieldLink RX0 18 "Twicebook$Page" "asking" "LTwicebook$Row;", Cond.methodLink RX4 108 yX2_find]
def wsX4_placeOf : List Cond := .code yX4_placeOf cX4_placeOf 3 (some .int) :: ((wsX4_placeOf_r1 ++ wsX4_placeOf_r2) ++ wsX40 ++ wsX00 ++ wsX20 ++ (vx_atS RX4 80 "java/lang/IllegalArgumentException" ["java/lang/RuntimeException", "java/lang/Exception"]).filter goodWord ++ (vx_atS RX4 146 "java/util/NoSuchElementException" ["java/lang/RuntimeException", "java/lang/Exception"]).filter goodWord)
def wsX4_setAt_r1 : List Cond := [Cond.fieldLink RX4 10 "Twicebook" "book" "LTwicebook$Page;", Cond.methodLink RX4 90 yX4_refuseUnknownOrder, Cond.instanceMethod yX4_refuseUnknownOrder, Cond.selects RX4 yX4_refuseUnknownOrder yX4_refuseUnknownOrder, Cond.initialized RX4, Cond.code yX4_refuseUnknownOrder cX4_refuseUnknownOrder 2 none, Cond.classLink RX4 76 "java/lang/IllegalArgumentException", Cond.initialized "java/lang/IllegalArgumentException", Cond.methodLink RX4 98 yX4_refuseUnknownPlace, Cond.instanceMethod yX4_refuseUnknownPlace, Cond.selects RX4 yX4_refuseUnknownPlace yX4_refuseUnknownPlace, Cond.code yX4_refuseUnknownPlace cX4_refuseUnknownPlace 2 none, Cond.classLink RX4 165 "java/lang/IndexOutOfBoundsException", Cond.initialized "java/lang/IndexOutOfBoundsException", Cond.methodLink RX4 139 yX2_holdsPlace, Cond.instanceMethod yX2_holdsPlace, Cond.selects RX2 yX2_holdsPlace yX2_holdsPlace, Cond.initialized RX2, Cond.code yX2_holdsPlace cX2_holdsPlace 2 (some .boolean), Cond.fieldLink RX2 18 "Twicebook$Row" "count" "I", Cond.fieldLink RX2 9 "Twicebook$Row" "keys" "[I", Cond.methodLink RX4 101 yX0_row, Cond.instanceMethod yX0_row, Cond.selects RX0 yX0_row yX0_row]
def wsX4_setAt_r2 : List Cond := [Cond.initialized RX0, Cond.code yX0_row cX0_row 2 (some (.object "Twicebook$Row")), Cond.fieldLink RX0 18 "Twicebook$Page" "asking" "LTwicebook$Row;", Cond.fieldLink RX0 12 "Twicebook$Page" "coming" "LTwicebook$Row;", Cond.methodLink RX4 111 yX2_valueIn, Cond.instanceMethod yX2_valueIn, Cond.selects RX2 yX2_valueIn yX2_valueIn, Cond.code yX2_valueIn cX2_valueIn 2 (some .int), Cond.fieldLink RX2 15 "Twicebook$Row" "values" "[I", Cond.methodLink RX2 22 yX2_holdsPlace, Cond.methodLink RX4 41 yX4_beginChange, Cond.instanceMethod yX4_beginChange, Cond.selects RX4 yX4_beginChange yX4_beginChange, Cond.code yX4_beginChange cX4_beginChange 1 none, Cond.fieldLink RX4 26 "Twicebook" "tour" "LTwicebook$Tour;", Cond.fieldLink RX4 19 "Twicebook" "past" "LTwicebook$Past;", Cond.methodLink RX4 181 yX3_end, Cond.instanceMethod yX3_end, Cond.selects RX3 yX3_end yX3_end, Cond.initialized RX3, Cond.code yX3_end cX3_end 1 none, Cond.fieldLink RX3 9 "Twicebook$Tour" "on" "Z", Cond.methodLink RX4 155 yX1_keep, Cond.instanceMethod yX1_keep]
def wsX4_setAt_r3 : List Cond := [Cond.selects RX1 yX1_keep yX1_keep, Cond.initialized RX1, Cond.code yX1_keep cX1_keep 2 none, Cond.fieldLink RX1 18 "Twicebook$Past" "free" "I", Cond.fieldLink RX1 11 "Twicebook$Past" "pages" "[LTwicebook$Page;", Cond.fieldLink RX1 22 "Twicebook$Past" "kept" "I", Cond.methodLink RX1 29 Lib.Math.min.name, Cond.static Lib.Math.min.name, Cond.initialized "java/lang/Math", Cond.code Lib.Math.min.name Lib.Math.min.code 2 (some .int), Cond.methodLink RX1 25 yX0_become, Cond.instanceMethod yX0_become, Cond.selects RX0 yX0_become yX0_become, Cond.code yX0_become cX0_become 2 none, Cond.fieldLink RX0 21 "Twicebook$Page" "most" "I", Cond.fieldLink RX0 25 "Twicebook$Page" "eldestBy" "C", Cond.methodLink RX0 73 yX2_become, Cond.instanceMethod yX2_become, Cond.selects RX2 yX2_become yX2_become, Cond.code yX2_become cX2_become 3 none, Cond.methodLink RX2 26 yX2_keyIn, Cond.instanceMethod yX2_keyIn, Cond.selects RX2 yX2_keyIn yX2_keyIn, Cond.code yX2_keyIn cX2_keyIn 2 (some .int)]
def wsX4_setAt_r4 : List Cond := [Cond.methodLink RX2 38 yX2_valueIn, Cond.methodLink RX2 34 yX2_append, Cond.instanceMethod yX2_append, Cond.selects RX2 yX2_append yX2_append, Cond.code yX2_append cX2_append 3 none, Cond.methodLink RX4 105 yX2_keyIn, Cond.methodLink RX4 48 yX0_giveKey, Cond.instanceMethod yX0_giveKey, Cond.selects RX0 yX0_giveKey yX0_giveKey, Cond.code yX0_giveKey cX0_giveKey 3 none, Cond.methodLink RX0 29 yX2_find, Cond.instanceMethod yX2_find, Cond.selects RX2 yX2_find yX2_find, Cond.code yX2_find cX2_find 3 (some .int), Cond.methodLink RX0 36 yX2_give, Cond.instanceMethod yX2_give, Cond.selects RX2 yX2_give yX2_give, Cond.code yX2_give cX2_give 3 none]
def wsX4_setAt : List Cond := .code yX4_setAt cX4_setAt 6 (some .int) :: ((wsX4_setAt_r1 ++ (wsX4_setAt_r2 ++ (wsX4_setAt_r3 ++ wsX4_setAt_r4))) ++ wsX40 ++ wsX00 ++ wsX20 ++ wsX30 ++ wsX10 ++ (vx_atS RX4 80 "java/lang/IllegalArgumentException" ["java/lang/RuntimeException", "java/lang/Exception"]).filter goodWord ++ (vx_atS RX4 169 "java/lang/IndexOutOfBoundsException" ["java/lang/RuntimeException", "java/lang/Exception"]).filter goodWord)
def wsX4_removeAt_r1 : List Cond := [Cond.fieldLink RX4 10 "Twicebook" "book" "LTwicebook$Page;", Cond.methodLink RX4 90 yX4_refuseUnknownOrder, Cond.instanceMethod yX4_refuseUnknownOrder, Cond.selects RX4 yX4_refuseUnknownOrder yX4_refuseUnknownOrder, Cond.initialized RX4, Cond.code yX4_refuseUnknownOrder cX4_refuseUnknownOrder 2 none, Cond.classLink RX4 76 "java/lang/IllegalArgumentException", Cond.initialized "java/lang/IllegalArgumentException", Cond.methodLink RX4 98 yX4_refuseUnknownPlace, Cond.instanceMethod yX4_refuseUnknownPlace, Cond.selects RX4 yX4_refuseUnknownPlace yX4_refuseUnknownPlace, Cond.code yX4_refuseUnknownPlace cX4_refuseUnknownPlace 2 none, Cond.classLink RX4 165 "java/lang/IndexOutOfBoundsException", Cond.initialized "java/lang/IndexOutOfBoundsException", Cond.methodLink RX4 139 yX2_holdsPlace, Cond.instanceMethod yX2_holdsPlace, Cond.selects RX2 yX2_holdsPlace yX2_holdsPlace, Cond.initialized RX2, Cond.code yX2_holdsPlace cX2_holdsPlace 2 (some .boolean), Cond.fieldLink RX2 18 "Twicebook$Row" "count" "I", Cond.fieldLink RX2 9 "Twicebook$Row" "keys" "[I", Cond.methodLink RX4 101 yX0_row, Cond.instanceMethod yX0_row, Cond.selects RX0 yX0_row yX0_row]
def wsX4_removeAt_r2 : List Cond := [Cond.initialized RX0, Cond.code yX0_row cX0_row 2 (some (.object "Twicebook$Row")), Cond.fieldLink RX0 18 "Twicebook$Page" "asking" "LTwicebook$Row;", Cond.fieldLink RX0 12 "Twicebook$Page" "coming" "LTwicebook$Row;", Cond.methodLink RX4 105 yX2_keyIn, Cond.instanceMethod yX2_keyIn, Cond.selects RX2 yX2_keyIn yX2_keyIn, Cond.code yX2_keyIn cX2_keyIn 2 (some .int), Cond.methodLink RX2 22 yX2_holdsPlace, Cond.methodLink RX4 41 yX4_beginChange, Cond.instanceMethod yX4_beginChange, Cond.selects RX4 yX4_beginChange yX4_beginChange, Cond.code yX4_beginChange cX4_beginChange 1 none, Cond.fieldLink RX4 26 "Twicebook" "tour" "LTwicebook$Tour;", Cond.fieldLink RX4 19 "Twicebook" "past" "LTwicebook$Past;", Cond.methodLink RX4 181 yX3_end, Cond.instanceMethod yX3_end, Cond.selects RX3 yX3_end yX3_end, Cond.initialized RX3, Cond.code yX3_end cX3_end 1 none, Cond.fieldLink RX3 9 "Twicebook$Tour" "on" "Z", Cond.methodLink RX4 155 yX1_keep, Cond.instanceMethod yX1_keep, Cond.selects RX1 yX1_keep yX1_keep]
def wsX4_removeAt_r3 : List Cond := [Cond.initialized RX1, Cond.code yX1_keep cX1_keep 2 none, Cond.fieldLink RX1 18 "Twicebook$Past" "free" "I", Cond.fieldLink RX1 11 "Twicebook$Past" "pages" "[LTwicebook$Page;", Cond.fieldLink RX1 22 "Twicebook$Past" "kept" "I", Cond.methodLink RX1 29 Lib.Math.min.name, Cond.static Lib.Math.min.name, Cond.initialized "java/lang/Math", Cond.code Lib.Math.min.name Lib.Math.min.code 2 (some .int), Cond.methodLink RX1 25 yX0_become, Cond.instanceMethod yX0_become, Cond.selects RX0 yX0_become yX0_become, Cond.code yX0_become cX0_become 2 none, Cond.fieldLink RX0 21 "Twicebook$Page" "most" "I", Cond.fieldLink RX0 25 "Twicebook$Page" "eldestBy" "C", Cond.methodLink RX0 73 yX2_become, Cond.instanceMethod yX2_become, Cond.selects RX2 yX2_become yX2_become, Cond.code yX2_become cX2_become 3 none, Cond.methodLink RX2 26 yX2_keyIn, Cond.methodLink RX2 38 yX2_valueIn, Cond.instanceMethod yX2_valueIn, Cond.selects RX2 yX2_valueIn yX2_valueIn, Cond.code yX2_valueIn cX2_valueIn 2 (some .int)]
def wsX4_removeAt_r4 : List Cond := [Cond.fieldLink RX2 15 "Twicebook$Row" "values" "[I", Cond.methodLink RX2 34 yX2_append, Cond.instanceMethod yX2_append, Cond.selects RX2 yX2_append yX2_append, Cond.code yX2_append cX2_append 3 none, Cond.methodLink RX4 66 yX0_takeOut, Cond.instanceMethod yX0_takeOut, Cond.selects RX0 yX0_takeOut yX0_takeOut, Cond.code yX0_takeOut cX0_takeOut 2 none, Cond.methodLink RX0 29 yX2_find, Cond.instanceMethod yX2_find, Cond.selects RX2 yX2_find yX2_find, Cond.code yX2_find cX2_find 3 (some .int), Cond.methodLink RX0 44 yX2_close, Cond.instanceMethod yX2_close, Cond.selects RX2 yX2_close yX2_close, Cond.code yX2_close cX2_close 3 none]
def wsX4_removeAt : List Cond := .code yX4_removeAt cX4_removeAt 4 (some .int) :: ((wsX4_removeAt_r1 ++ (wsX4_removeAt_r2 ++ (wsX4_removeAt_r3 ++ wsX4_removeAt_r4))) ++ wsX40 ++ wsX00 ++ wsX20 ++ wsX30 ++ wsX10 ++ (vx_atS RX4 80 "java/lang/IllegalArgumentException" ["java/lang/RuntimeException", "java/lang/Exception"]).filter goodWord ++ (vx_atS RX4 169 "java/lang/IndexOutOfBoundsException" ["java/lang/RuntimeException", "java/lang/Exception"]).filter goodWord)
def wsX4_thin_r1 : List Cond := [Cond.classLink RX4 76 "java/lang/IllegalArgumentException", Cond.initialized "java/lang/IllegalArgumentException", Cond.fieldLink RX4 10 "Twicebook" "book" "LTwicebook$Page;", Cond.methodLink RX4 90 yX4_refuseUnknownOrder, Cond.instanceMethod yX4_refuseUnknownOrder, Cond.selects RX4 yX4_refuseUnknownOrder yX4_refuseUnknownOrder, Cond.initialized RX4, Cond.code yX4_refuseUnknownOrder cX4_refuseUnknownOrder 2 none, Cond.methodLink RX4 72 yX2_count, Cond.instanceMethod yX2_count, Cond.selects RX2 yX2_count yX2_count, Cond.initialized RX2, Cond.code yX2_count cX2_count 1 (some .int), Cond.fieldLink RX2 18 "Twicebook$Row" "count" "I", Cond.methodLink RX4 41 yX4_beginChange, Cond.instanceMethod yX4_beginChange, Cond.selects RX4 yX4_beginChange yX4_beginChange, Cond.code yX4_beginChange cX4_beginChange 1 none, Cond.fieldLink RX4 26 "Twicebook" "tour" "LTwicebook$Tour;", Cond.fieldLink RX4 19 "Twicebook" "past" "LTwicebook$Past;", Cond.methodLink RX4 181 yX3_end, Cond.instanceMethod yX3_end, Cond.selects RX3 yX3_end yX3_end, Cond.initialized RX3]
def wsX4_thin_r2 : List Cond := [Cond.code yX3_end cX3_end 1 none, Cond.fieldLink RX3 9 "Twicebook$Tour" "on" "Z", Cond.methodLink RX4 155 yX1_keep, Cond.instanceMethod yX1_keep, Cond.selects RX1 yX1_keep yX1_keep, Cond.initialized RX1, Cond.code yX1_keep cX1_keep 2 none, Cond.fieldLink RX1 18 "Twicebook$Past" "free" "I", Cond.fieldLink RX1 11 "Twicebook$Past" "pages" "[LTwicebook$Page;", Cond.fieldLink RX1 22 "Twicebook$Past" "kept" "I", Cond.methodLink RX1 29 Lib.Math.min.name, Cond.static Lib.Math.min.name, Cond.initialized "java/lang/Math", Cond.code Lib.Math.min.name Lib.Math.min.code 2 (some .int), Cond.methodLink RX1 25 yX0_become, Cond.instanceMethod yX0_become, Cond.selects RX0 yX0_become yX0_become, Cond.initialized RX0, Cond.code yX0_become cX0_become 2 none, Cond.fieldLink RX0 12 "Twicebook$Page" "coming" "LTwicebook$Row;", Cond.fieldLink RX0 18 "Twicebook$Page" "asking" "LTwicebook$Row;", Cond.fieldLink RX0 21 "Twicebook$Page" "most" "I", Cond.fieldLink RX0 25 "Twicebook$Page" "eldestBy" "C", Cond.methodLink RX0 73 yX2_become]
def wsX4_thin_r3 : List Cond := [Cond.instanceMethod yX2_become, Cond.selects RX2 yX2_become yX2_become, Cond.code yX2_become cX2_become 3 none, Cond.methodLink RX2 26 yX2_keyIn, Cond.instanceMethod yX2_keyIn, Cond.selects RX2 yX2_keyIn yX2_keyIn, Cond.code yX2_keyIn cX2_keyIn 2 (some .int), Cond.fieldLink RX2 9 "Twicebook$Row" "keys" "[I", Cond.methodLink RX2 22 yX2_holdsPlace, Cond.instanceMethod yX2_holdsPlace, Cond.selects RX2 yX2_holdsPlace yX2_holdsPlace, Cond.code yX2_holdsPlace cX2_holdsPlace 2 (some .boolean), Cond.methodLink RX2 38 yX2_valueIn, Cond.instanceMethod yX2_valueIn, Cond.selects RX2 yX2_valueIn yX2_valueIn, Cond.code yX2_valueIn cX2_valueIn 2 (some .int), Cond.fieldLink RX2 15 "Twicebook$Row" "values" "[I", Cond.methodLink RX2 34 yX2_append, Cond.instanceMethod yX2_append, Cond.selects RX2 yX2_append yX2_append, Cond.code yX2_append cX2_append 3 none, Cond.methodLink RX4 116 yX0_takeOutEach, Cond.instanceMethod yX0_takeOutEach, Cond.selects RX0 yX0_takeOutEach yX0_takeOutEach]
def wsX4_thin_r4 : List Cond := [Cond.code yX0_takeOutEach cX0_takeOutEach 5 (some .int), Cond.methodLink RX0 47 yX2_count, Cond.methodLink RX0 63 yX0_row, Cond.instanceMethod yX0_row, Cond.selects RX0 yX0_row yX0_row, Cond.code yX0_row cX0_row 2 (some (.object "Twicebook$Row")), Cond.methodLink RX0 67 yX2_keyIn, Cond.methodLink RX0 70 yX0_takeOut, Cond.instanceMethod yX0_takeOut, Cond.selects RX0 yX0_takeOut yX0_takeOut, Cond.code yX0_takeOut cX0_takeOut 2 none, Cond.methodLink RX0 29 yX2_find, Cond.instanceMethod yX2_find, Cond.selects RX2 yX2_find yX2_find, Cond.code yX2_find cX2_find 3 (some .int), Cond.methodLink RX0 44 yX2_close, Cond.instanceMethod yX2_close, Cond.selects RX2 yX2_close yX2_close, Cond.code yX2_close cX2_close 3 none]
def wsX4_thin : List Cond := .code yX4_thin cX4_thin 3 (some .int) :: ((wsX4_thin_r1 ++ (wsX4_thin_r2 ++ (wsX4_thin_r3 ++ wsX4_thin_r4))) ++ wsX40 ++ wsX00 ++ wsX20 ++ wsX30 ++ wsX10 ++ (vx_atS RX4 80 "java/lang/IllegalArgumentException" ["java/lang/RuntimeException", "java/lang/Exception"]).filter goodWord)
def wsX4_walk : List Cond := .code yX4_walk cX4_walk 2 (some .int) :: ([.fieldLink RX4 26 "Twicebook" "tour" "LTwicebook$Tour;", .fieldLink RX4 10 "Twicebook" "book" "LTwicebook$Page;", .methodLink RX4 90 yX4_refuseUnknownOrder, .instanceMethod yX4_refuseUnknownOrder, .selects RX4 yX4_refuseUnknownOrder yX4_refuseUnknownOrder, .initialized RX4, .code yX4_refuseUnknownOrder cX4_refuseUnknownOrder 2 none, .classLink RX4 76 "java/lang/IllegalArgumentException", .initialized "java/lang/IllegalArgumentException", .methodLink RX4 120 yX3_begin, .instanceMethod yX3_begin, .selects RX3 yX3_begin yX3_begin, .initialized RX3, .code yX3_begin cX3_begin 2 none, .fieldLink RX3 9 "Twicebook$Tour" "on" "Z", .fieldLink RX3 15 "Twicebook$Tour" "order" "C", .fieldLink RX3 19 "Twicebook$Tour" "nextPlace" "I", .fieldLink RX3 23 "Twicebook$Tour" "mayCut" "Z", .methodLink RX4 72 yX2_count, .instanceMethod yX2_count, .selects RX2 yX2_count yX2_count, .initialized RX2, .code yX2_count cX2_count 1 (some .int), .fieldLink RX2 18 "Twicebook$Row" "count" "I"] ++ wsX40 ++ wsX00 ++ wsX30 ++ wsX20 ++ (vx_atS RX4 80 "java/lang/IllegalArgumentException" ["java/lang/RuntimeException", "java/lang/Exception"]).filter goodWord)
def wsX4_step_r1 : List Cond := [Cond.classLink RX4 127 "java/lang/IllegalStateException", Cond.initialized "java/lang/IllegalStateException", Cond.classLink RX4 142 "java/util/NoSuchElementException", Cond.initialized "java/util/NoSuchElementException", Cond.fieldLink RX4 26 "Twicebook" "tour" "LTwicebook$Tour;", Cond.fieldLink RX4 10 "Twicebook" "book" "LTwicebook$Page;", Cond.methodLink RX4 123 yX3_isOn, Cond.instanceMethod yX3_isOn, Cond.selects RX3 yX3_isOn yX3_isOn, Cond.initialized RX3, Cond.code yX3_isOn cX3_isOn 1 (some .boolean), Cond.fieldLink RX3 9 "Twicebook$Tour" "on" "Z", Cond.methodLink RX4 132 yX3_nextPlace, Cond.instanceMethod yX3_nextPlace, Cond.selects RX3 yX3_nextPlace yX3_nextPlace, Cond.code yX3_nextPlace cX3_nextPlace 1 (some .int), Cond.fieldLink RX3 19 "Twicebook$Tour" "nextPlace" "I", Cond.methodLink RX4 135 yX3_order, Cond.instanceMethod yX3_order, Cond.selects RX3 yX3_order yX3_order, Cond.code yX3_order cX3_order 1 (some .char), Cond.fieldLink RX3 15 "Twicebook$Tour" "order" "C", Cond.methodLink RX4 101 yX0_row, Cond.instanceMethod yX0_row]
def wsX4_step_r2 : List Cond := [Cond.selects RX0 yX0_row yX0_row, Cond.initialized RX0, Cond.code yX0_row cX0_row 2 (some (.object "Twicebook$Row")), Cond.fieldLink RX0 18 "Twicebook$Page" "asking" "LTwicebook$Row;", Cond.fieldLink RX0 12 "Twicebook$Page" "coming" "LTwicebook$Row;", Cond.methodLink RX4 139 yX2_holdsPlace, Cond.instanceMethod yX2_holdsPlace, Cond.selects RX2 yX2_holdsPlace yX2_holdsPlace, Cond.initialized RX2, Cond.code yX2_holdsPlace cX2_holdsPlace 2 (some .boolean), Cond.fieldLink RX2 18 "Twicebook$Row" "count" "I", Cond.fieldLink RX2 9 "Twicebook$Row" "keys" "[I", Cond.methodLink RX4 147 yX3_goOver, Cond.instanceMethod yX3_goOver, Cond.selects RX3 yX3_goOver yX3_goOver, Cond.code yX3_goOver cX3_goOver 1 none, Cond.fieldLink RX3 23 "Twicebook$Tour" "mayCut" "Z", Cond.methodLink RX4 105 yX2_keyIn, Cond.instanceMethod yX2_keyIn, Cond.selects RX2 yX2_keyIn yX2_keyIn, Cond.code yX2_keyIn cX2_keyIn 2 (some .int), Cond.methodLink RX2 22 yX2_holdsPlace]
def wsX4_step : List Cond := .code yX4_step cX4_step 2 (some .int) :: ((wsX4_step_r1 ++ wsX4_step_r2) ++ wsX40 ++ wsX30 ++ wsX00 ++ wsX20 ++ (vx_atS RX4 131 "java/lang/IllegalStateException" ["java/lang/RuntimeException", "java/lang/Exception"]).filter goodWord ++ (vx_atS RX4 146 "java/util/NoSuchElementException" ["java/lang/RuntimeException", "java/lang/Exception"]).filter goodWord)
def wsX4_cut_r1 : List Cond := [Cond.classLink RX4 127 "java/lang/IllegalStateException", Cond.initialized "java/lang/IllegalStateException", Cond.fieldLink RX4 26 "Twicebook" "tour" "LTwicebook$Tour;", Cond.fieldLink RX4 19 "Twicebook" "past" "LTwicebook$Past;", Cond.fieldLink RX4 10 "Twicebook" "book" "LTwicebook$Page;", Cond.methodLink RX4 123 yX3_isOn, Cond.instanceMethod yX3_isOn, Cond.selects RX3 yX3_isOn yX3_isOn, Cond.initialized RX3, Cond.code yX3_isOn cX3_isOn 1 (some .boolean), Cond.fieldLink RX3 9 "Twicebook$Tour" "on" "Z", Cond.methodLink RX4 150 yX3_mayCut, Cond.instanceMethod yX3_mayCut, Cond.selects RX3 yX3_mayCut yX3_mayCut, Cond.code yX3_mayCut cX3_mayCut 1 (some .boolean), Cond.fieldLink RX3 23 "Twicebook$Tour" "mayCut" "Z", Cond.methodLink RX4 155 yX1_keep, Cond.instanceMethod yX1_keep, Cond.selects RX1 yX1_keep yX1_keep, Cond.initialized RX1, Cond.code yX1_keep cX1_keep 2 none, Cond.fieldLink RX1 18 "Twicebook$Past" "free" "I", Cond.fieldLink RX1 11 "Twicebook$Past" "pages" "[LTwicebook$Page;", Cond.fieldLink RX1 22 "Twicebook$Past" "kept" "I"]
def wsX4_cut_r2 : List Cond := [Cond.methodLink RX1 29 Lib.Math.min.name, Cond.static Lib.Math.min.name, Cond.initialized "java/lang/Math", Cond.code Lib.Math.min.name Lib.Math.min.code 2 (some .int), Cond.methodLink RX1 25 yX0_become, Cond.instanceMethod yX0_become, Cond.selects RX0 yX0_become yX0_become, Cond.initialized RX0, Cond.code yX0_become cX0_become 2 none, Cond.fieldLink RX0 12 "Twicebook$Page" "coming" "LTwicebook$Row;", Cond.fieldLink RX0 18 "Twicebook$Page" "asking" "LTwicebook$Row;", Cond.fieldLink RX0 21 "Twicebook$Page" "most" "I", Cond.fieldLink RX0 25 "Twicebook$Page" "eldestBy" "C", Cond.methodLink RX0 73 yX2_become, Cond.instanceMethod yX2_become, Cond.selects RX2 yX2_become yX2_become, Cond.initialized RX2, Cond.code yX2_become cX2_become 3 none, Cond.fieldLink RX2 18 "Twicebook$Row" "count" "I", Cond.methodLink RX2 26 yX2_keyIn, Cond.instanceMethod yX2_keyIn, Cond.selects RX2 yX2_keyIn yX2_keyIn, Cond.code yX2_keyIn cX2_keyIn 2 (some .int), Cond.fieldLink RX2 9 "Twicebook$Row" "keys" "[I"]
def wsX4_cut_r3 : List Cond := [Cond.methodLink RX2 22 yX2_holdsPlace, Cond.instanceMethod yX2_holdsPlace, Cond.selects RX2 yX2_holdsPlace yX2_holdsPlace, Cond.code yX2_holdsPlace cX2_holdsPlace 2 (some .boolean), Cond.methodLink RX2 38 yX2_valueIn, Cond.instanceMethod yX2_valueIn, Cond.selects RX2 yX2_valueIn yX2_valueIn, Cond.code yX2_valueIn cX2_valueIn 2 (some .int), Cond.fieldLink RX2 15 "Twicebook$Row" "values" "[I", Cond.methodLink RX2 34 yX2_append, Cond.instanceMethod yX2_append, Cond.selects RX2 yX2_append yX2_append, Cond.code yX2_append cX2_append 3 none, Cond.methodLink RX4 135 yX3_order, Cond.instanceMethod yX3_order, Cond.selects RX3 yX3_order yX3_order, Cond.code yX3_order cX3_order 1 (some .char), Cond.fieldLink RX3 15 "Twicebook$Tour" "order" "C", Cond.methodLink RX4 101 yX0_row, Cond.instanceMethod yX0_row, Cond.selects RX0 yX0_row yX0_row, Cond.code yX0_row cX0_row 2 (some (.object "Twicebook$Row")), Cond.methodLink RX4 132 yX3_nextPlace, Cond.instanceMethod yX3_nextPlace]
def wsX4_cut_r4 : List Cond := [Cond.selects RX3 yX3_nextPlace yX3_nextPlace, Cond.code yX3_nextPlace cX3_nextPlace 1 (some .int), Cond.fieldLink RX3 19 "Twicebook$Tour" "nextPlace" "I", Cond.methodLink RX4 105 yX2_keyIn, Cond.methodLink RX4 66 yX0_takeOut, Cond.instanceMethod yX0_takeOut, Cond.selects RX0 yX0_takeOut yX0_takeOut, Cond.code yX0_takeOut cX0_takeOut 2 none, Cond.methodLink RX0 29 yX2_find, Cond.instanceMethod yX2_find, Cond.selects RX2 yX2_find yX2_find, Cond.code yX2_find cX2_find 3 (some .int), Cond.methodLink RX0 44 yX2_close, Cond.instanceMethod yX2_close, Cond.selects RX2 yX2_close yX2_close, Cond.code yX2_close cX2_close 3 none, Cond.methodLink RX4 159 yX3_goBack, Cond.instanceMethod yX3_goBack, Cond.selects RX3 yX3_goBack yX3_goBack, Cond.code yX3_goBack cX3_goBack 1 none, Cond.methodLink RX4 72 yX2_count, Cond.instanceMethod yX2_count, Cond.selects RX2 yX2_count yX2_count, Cond.code yX2_count cX2_count 1 (some .int)]
def wsX4_cut : List Cond := .code yX4_cut cX4_cut 1 (some .int) :: ((wsX4_cut_r1 ++ (wsX4_cut_r2 ++ (wsX4_cut_r3 ++ wsX4_cut_r4))) ++ wsX40 ++ wsX00 ++ wsX30 ++ wsX10 ++ wsX20 ++ (vx_atS RX4 131 "java/lang/IllegalStateException" ["java/lang/RuntimeException", "java/lang/Exception"]).filter goodWord)
def wsX4_moves_r1 : List Cond := [Cond.fieldLink RX4 10 "Twicebook" "book" "LTwicebook$Page;", Cond.methodLink RX4 72 yX2_count, Cond.instanceMethod yX2_count, Cond.selects RX2 yX2_count yX2_count, Cond.initialized RX2, Cond.code yX2_count cX2_count 1 (some .int), Cond.fieldLink RX2 18 "Twicebook$Row" "count" "I", Cond.methodLink RX4 162 yX0_staying, Cond.instanceMethod yX0_staying, Cond.selects RX0 yX0_staying yX0_staying, Cond.initialized RX0, Cond.code yX0_staying cX0_staying 4 (some .int), Cond.fieldLink RX0 18 "Twicebook$Page" "asking" "LTwicebook$Row;", Cond.fieldLink RX0 12 "Twicebook$Page" "coming" "LTwicebook$Row;", Cond.methodLink RX0 47 yX2_count, Cond.methodLink RX0 67 yX2_keyIn, Cond.instanceMethod yX2_keyIn, Cond.selects RX2 yX2_keyIn yX2_keyIn, Cond.code yX2_keyIn cX2_keyIn 2 (some .int), Cond.fieldLink RX2 9 "Twicebook$Row" "keys" "[I", Cond.methodLink RX2 22 yX2_holdsPlace, Cond.instanceMethod yX2_holdsPlace, Cond.selects RX2 yX2_holdsPlace yX2_holdsPlace, Cond.code yX2_holdsPlace cX2_holdsPlace 2 (some .boolean)]
def wsX4_moves_r2 : List Cond := [Cond.methodLink RX0 29 yX2_find, Cond.instanceMethod yX2_find, Cond.selects RX2 yX2_find yX2_find, Cond.code yX2_find cX2_find 3 (some .int), Cond.methodLink RX2 26 yX2_keyIn]
def wsX4_moves : List Cond := .code yX4_moves cX4_moves 1 (some .int) :: ((wsX4_moves_r1 ++ wsX4_moves_r2) ++ wsX40 ++ wsX00 ++ wsX20)
def wsX4_move_r1 : List Cond := [Cond.classLink RX4 165 "java/lang/IndexOutOfBoundsException", Cond.initialized "java/lang/IndexOutOfBoundsException", Cond.fieldLink RX4 10 "Twicebook" "book" "LTwicebook$Page;", Cond.methodLink RX4 162 yX0_staying, Cond.instanceMethod yX0_staying, Cond.selects RX0 yX0_staying yX0_staying, Cond.initialized RX0, Cond.code yX0_staying cX0_staying 4 (some .int), Cond.fieldLink RX0 18 "Twicebook$Page" "asking" "LTwicebook$Row;", Cond.fieldLink RX0 12 "Twicebook$Page" "coming" "LTwicebook$Row;", Cond.methodLink RX0 47 yX2_count, Cond.instanceMethod yX2_count, Cond.selects RX2 yX2_count yX2_count, Cond.initialized RX2, Cond.code yX2_count cX2_count 1 (some .int), Cond.fieldLink RX2 18 "Twicebook$Row" "count" "I", Cond.methodLink RX0 67 yX2_keyIn, Cond.instanceMethod yX2_keyIn, Cond.selects RX2 yX2_keyIn yX2_keyIn, Cond.code yX2_keyIn cX2_keyIn 2 (some .int), Cond.fieldLink RX2 9 "Twicebook$Row" "keys" "[I", Cond.methodLink RX2 22 yX2_holdsPlace, Cond.instanceMethod yX2_holdsPlace, Cond.selects RX2 yX2_holdsPlace yX2_holdsPlace]
def wsX4_move_r2 : List Cond := [Cond.code yX2_holdsPlace cX2_holdsPlace 2 (some .boolean), Cond.methodLink RX0 29 yX2_find, Cond.instanceMethod yX2_find, Cond.selects RX2 yX2_find yX2_find, Cond.code yX2_find cX2_find 3 (some .int), Cond.methodLink RX2 26 yX2_keyIn, Cond.methodLink RX4 72 yX2_count, Cond.methodLink RX4 105 yX2_keyIn]
def wsX4_move : List Cond := .code yX4_move cX4_move 3 (some .int) :: ((wsX4_move_r1 ++ wsX4_move_r2) ++ wsX40 ++ wsX00 ++ wsX20 ++ (vx_atS RX4 169 "java/lang/IndexOutOfBoundsException" ["java/lang/RuntimeException", "java/lang/Exception"]).filter goodWord)
def wsX4_crossings_r1 : List Cond := [Cond.fieldLink RX4 10 "Twicebook" "book" "LTwicebook$Page;", Cond.methodLink RX4 173 yX0_crossedPairs, Cond.instanceMethod yX0_crossedPairs, Cond.selects RX0 yX0_crossedPairs yX0_crossedPairs, Cond.initialized RX0, Cond.code yX0_crossedPairs cX0_crossedPairs 5 (some .int), Cond.fieldLink RX0 18 "Twicebook$Page" "asking" "LTwicebook$Row;", Cond.fieldLink RX0 12 "Twicebook$Page" "coming" "LTwicebook$Row;", Cond.methodLink RX0 47 yX2_count, Cond.instanceMethod yX2_count, Cond.selects RX2 yX2_count yX2_count, Cond.initialized RX2, Cond.code yX2_count cX2_count 1 (some .int), Cond.fieldLink RX2 18 "Twicebook$Row" "count" "I", Cond.methodLink RX0 67 yX2_keyIn, Cond.instanceMethod yX2_keyIn, Cond.selects RX2 yX2_keyIn yX2_keyIn, Cond.code yX2_keyIn cX2_keyIn 2 (some .int), Cond.fieldLink RX2 9 "Twicebook$Row" "keys" "[I", Cond.methodLink RX2 22 yX2_holdsPlace, Cond.instanceMethod yX2_holdsPlace, Cond.selects RX2 yX2_holdsPlace yX2_holdsPlace, Cond.code yX2_holdsPlace cX2_holdsPlace 2 (some .boolean), Cond.methodLink RX0 29 yX2_find]
def wsX4_crossings_r2 : List Cond := [Cond.instanceMethod yX2_find, Cond.selects RX2 yX2_find yX2_find, Cond.code yX2_find cX2_find 3 (some .int), Cond.methodLink RX2 26 yX2_keyIn]
def wsX4_crossings : List Cond := .code yX4_crossings cX4_crossings 1 (some .int) :: ((wsX4_crossings_r1 ++ wsX4_crossings_r2) ++ wsX40 ++ wsX00 ++ wsX20)
def wsX4_undo_r1 : List Cond := [Cond.classLink RX4 142 "java/util/NoSuchElementException", Cond.initialized "java/util/NoSuchElementException", Cond.fieldLink RX4 19 "Twicebook" "past" "LTwicebook$Past;", Cond.fieldLink RX4 26 "Twicebook" "tour" "LTwicebook$Tour;", Cond.fieldLink RX4 10 "Twicebook" "book" "LTwicebook$Page;", Cond.methodLink RX4 176 yX1_kept, Cond.instanceMethod yX1_kept, Cond.selects RX1 yX1_kept yX1_kept, Cond.initialized RX1, Cond.code yX1_kept cX1_kept 1 (some .int), Cond.fieldLink RX1 22 "Twicebook$Past" "kept" "I", Cond.methodLink RX4 181 yX3_end, Cond.instanceMethod yX3_end, Cond.selects RX3 yX3_end yX3_end, Cond.initialized RX3, Cond.code yX3_end cX3_end 1 none, Cond.fieldLink RX3 9 "Twicebook$Tour" "on" "Z", Cond.methodLink RX4 184 yX1_bringBack, Cond.instanceMethod yX1_bringBack, Cond.selects RX1 yX1_bringBack yX1_bringBack, Cond.code yX1_bringBack cX1_bringBack 3 none, Cond.fieldLink RX1 18 "Twicebook$Past" "free" "I", Cond.fieldLink RX1 11 "Twicebook$Past" "pages" "[LTwicebook$Page;", Cond.methodLink RX1 25 yX0_become]
def wsX4_undo_r2 : List Cond := [Cond.instanceMethod yX0_become, Cond.selects RX0 yX0_become yX0_become, Cond.initialized RX0, Cond.code yX0_become cX0_become 2 none, Cond.fieldLink RX0 12 "Twicebook$Page" "coming" "LTwicebook$Row;", Cond.fieldLink RX0 18 "Twicebook$Page" "asking" "LTwicebook$Row;", Cond.fieldLink RX0 21 "Twicebook$Page" "most" "I", Cond.fieldLink RX0 25 "Twicebook$Page" "eldestBy" "C", Cond.methodLink RX0 73 yX2_become, Cond.instanceMethod yX2_become, Cond.selects RX2 yX2_become yX2_become, Cond.initialized RX2, Cond.code yX2_become cX2_become 3 none, Cond.fieldLink RX2 18 "Twicebook$Row" "count" "I", Cond.methodLink RX2 26 yX2_keyIn, Cond.instanceMethod yX2_keyIn, Cond.selects RX2 yX2_keyIn yX2_keyIn, Cond.code yX2_keyIn cX2_keyIn 2 (some .int), Cond.fieldLink RX2 9 "Twicebook$Row" "keys" "[I", Cond.methodLink RX2 22 yX2_holdsPlace, Cond.instanceMethod yX2_holdsPlace, Cond.selects RX2 yX2_holdsPlace yX2_holdsPlace, Cond.code yX2_holdsPlace cX2_holdsPlace 2 (some .boolean), Cond.methodLink RX2 38 yX2_valueIn]
def wsX4_undo_r3 : List Cond := [Cond.instanceMethod yX2_valueIn, Cond.selects RX2 yX2_valueIn yX2_valueIn, Cond.code yX2_valueIn cX2_valueIn 2 (some .int), Cond.fieldLink RX2 15 "Twicebook$Row" "values" "[I", Cond.methodLink RX2 34 yX2_append, Cond.instanceMethod yX2_append, Cond.selects RX2 yX2_append yX2_append, Cond.code yX2_append cX2_append 3 none]
def wsX4_undo : List Cond := .code yX4_undo cX4_undo 1 (some .int) :: ((wsX4_undo_r1 ++ (wsX4_undo_r2 ++ wsX4_undo_r3)) ++ wsX40 ++ wsX10 ++ wsX30 ++ wsX00 ++ wsX20 ++ (vx_atS RX4 146 "java/util/NoSuchElementException" ["java/lang/RuntimeException", "java/lang/Exception"]).filter goodWord)
def wsX4_movesGiveAsking_r1 : List Cond := [Cond.fieldLink RX4 33 "Twicebook" "trial" "LTwicebook$Row;", Cond.fieldLink RX4 10 "Twicebook" "book" "LTwicebook$Page;", Cond.methodLink RX4 201 yX2_become, Cond.instanceMethod yX2_become, Cond.selects RX2 yX2_become yX2_become, Cond.initialized RX2, Cond.code yX2_become cX2_become 3 none, Cond.fieldLink RX2 18 "Twicebook$Row" "count" "I", Cond.methodLink RX2 26 yX2_keyIn, Cond.instanceMethod yX2_keyIn, Cond.selects RX2 yX2_keyIn yX2_keyIn, Cond.code yX2_keyIn cX2_keyIn 2 (some .int), Cond.fieldLink RX2 9 "Twicebook$Row" "keys" "[I", Cond.methodLink RX2 22 yX2_holdsPlace, Cond.instanceMethod yX2_holdsPlace, Cond.selects RX2 yX2_holdsPlace yX2_holdsPlace, Cond.code yX2_holdsPlace cX2_holdsPlace 2 (some .boolean), Cond.methodLink RX2 38 yX2_valueIn, Cond.instanceMethod yX2_valueIn, Cond.selects RX2 yX2_valueIn yX2_valueIn, Cond.code yX2_valueIn cX2_valueIn 2 (some .int), Cond.fieldLink RX2 15 "Twicebook$Row" "values" "[I", Cond.methodLink RX2 34 yX2_append, Cond.instanceMethod yX2_append]
def wsX4_movesGiveAsking_r2 : List Cond := [Cond.selects RX2 yX2_append yX2_append, Cond.code yX2_append cX2_append 3 none, Cond.methodLink RX4 162 yX0_staying, Cond.instanceMethod yX0_staying, Cond.selects RX0 yX0_staying yX0_staying, Cond.initialized RX0, Cond.code yX0_staying cX0_staying 4 (some .int), Cond.fieldLink RX0 18 "Twicebook$Page" "asking" "LTwicebook$Row;", Cond.fieldLink RX0 12 "Twicebook$Page" "coming" "LTwicebook$Row;", Cond.methodLink RX0 47 yX2_count, Cond.instanceMethod yX2_count, Cond.selects RX2 yX2_count yX2_count, Cond.code yX2_count cX2_count 1 (some .int), Cond.methodLink RX0 67 yX2_keyIn, Cond.methodLink RX0 29 yX2_find, Cond.instanceMethod yX2_find, Cond.selects RX2 yX2_find yX2_find, Cond.code yX2_find cX2_find 3 (some .int), Cond.methodLink RX4 72 yX2_count, Cond.methodLink RX4 105 yX2_keyIn, Cond.methodLink RX4 108 yX2_find, Cond.methodLink RX4 205 yX2_putLast, Cond.instanceMethod yX2_putLast, Cond.selects RX2 yX2_putLast yX2_putLast]
def wsX4_movesGiveAsking_r3 : List Cond := [Cond.code yX2_putLast cX2_putLast 4 none, Cond.methodLink RX2 30 yX2_close, Cond.instanceMethod yX2_close, Cond.selects RX2 yX2_close yX2_close, Cond.code yX2_close cX2_close 3 none, Cond.methodLink RX4 208 yX2_sameAs, Cond.instanceMethod yX2_sameAs, Cond.selects RX2 yX2_sameAs yX2_sameAs, Cond.code yX2_sameAs cX2_sameAs 3 (some .boolean)]
def wsX4_movesGiveAsking : List Cond := .code yX4_movesGiveAsking cX4_movesGiveAsking 2 (some .boolean) :: ((wsX4_movesGiveAsking_r1 ++ (wsX4_movesGiveAsking_r2 ++ wsX4_movesGiveAsking_r3)) ++ wsX40 ++ wsX00 ++ wsX20)
def wsX4_isTrue_r1 : List Cond := [Cond.fieldLink RX4 10 "Twicebook" "book" "LTwicebook$Page;", Cond.methodLink RX4 187 yX2_tellsAlike, Cond.instanceMethod yX2_tellsAlike, Cond.selects RX2 yX2_tellsAlike yX2_tellsAlike, Cond.initialized RX2, Cond.code yX2_tellsAlike cX2_tellsAlike 2 (some .boolean), Cond.fieldLink RX2 18 "Twicebook$Row" "count" "I", Cond.methodLink RX2 26 yX2_keyIn, Cond.instanceMethod yX2_keyIn, Cond.selects RX2 yX2_keyIn yX2_keyIn, Cond.code yX2_keyIn cX2_keyIn 2 (some .int), Cond.fieldLink RX2 9 "Twicebook$Row" "keys" "[I", Cond.methodLink RX2 22 yX2_holdsPlace, Cond.instanceMethod yX2_holdsPlace, Cond.selects RX2 yX2_holdsPlace yX2_holdsPlace, Cond.code yX2_holdsPlace cX2_holdsPlace 2 (some .boolean), Cond.methodLink RX2 41 yX2_find, Cond.instanceMethod yX2_find, Cond.selects RX2 yX2_find yX2_find, Cond.code yX2_find cX2_find 3 (some .int), Cond.methodLink RX4 190 yX2_hasEntriesOf, Cond.instanceMethod yX2_hasEntriesOf, Cond.selects RX2 yX2_hasEntriesOf yX2_hasEntriesOf, Cond.code yX2_hasEntriesOf cX2_hasEntriesOf 4 (some .boolean)]
def wsX4_isTrue_r2 : List Cond := [Cond.methodLink RX2 38 yX2_valueIn, Cond.instanceMethod yX2_valueIn, Cond.selects RX2 yX2_valueIn yX2_valueIn, Cond.code yX2_valueIn cX2_valueIn 2 (some .int), Cond.fieldLink RX2 15 "Twicebook$Row" "values" "[I", Cond.methodLink RX4 72 yX2_count, Cond.instanceMethod yX2_count, Cond.selects RX2 yX2_count yX2_count, Cond.code yX2_count cX2_count 1 (some .int), Cond.methodLink RX4 194 yX4_movesGiveAsking, Cond.instanceMethod yX4_movesGiveAsking, Cond.selects RX4 yX4_movesGiveAsking yX4_movesGiveAsking, Cond.initialized RX4, Cond.code yX4_movesGiveAsking cX4_movesGiveAsking 2 (some .boolean), Cond.fieldLink RX4 33 "Twicebook" "trial" "LTwicebook$Row;", Cond.methodLink RX4 201 yX2_become, Cond.instanceMethod yX2_become, Cond.selects RX2 yX2_become yX2_become, Cond.code yX2_become cX2_become 3 none, Cond.methodLink RX2 34 yX2_append, Cond.instanceMethod yX2_append, Cond.selects RX2 yX2_append yX2_append, Cond.code yX2_append cX2_append 3 none, Cond.methodLink RX4 162 yX0_staying]
def wsX4_isTrue_r3 : List Cond := [Cond.instanceMethod yX0_staying, Cond.selects RX0 yX0_staying yX0_staying, Cond.initialized RX0, Cond.code yX0_staying cX0_staying 4 (some .int), Cond.fieldLink RX0 18 "Twicebook$Page" "asking" "LTwicebook$Row;", Cond.fieldLink RX0 12 "Twicebook$Page" "coming" "LTwicebook$Row;", Cond.methodLink RX0 47 yX2_count, Cond.methodLink RX0 67 yX2_keyIn, Cond.methodLink RX0 29 yX2_find, Cond.methodLink RX4 105 yX2_keyIn, Cond.methodLink RX4 108 yX2_find, Cond.methodLink RX4 205 yX2_putLast, Cond.instanceMethod yX2_putLast, Cond.selects RX2 yX2_putLast yX2_putLast, Cond.code yX2_putLast cX2_putLast 4 none, Cond.methodLink RX2 30 yX2_close, Cond.instanceMethod yX2_close, Cond.selects RX2 yX2_close yX2_close, Cond.code yX2_close cX2_close 3 none, Cond.methodLink RX4 208 yX2_sameAs, Cond.instanceMethod yX2_sameAs, Cond.selects RX2 yX2_sameAs yX2_sameAs, Cond.code yX2_sameAs cX2_sameAs 3 (some .boolean)]
def wsX4_isTrue : List Cond := .code yX4_isTrue cX4_isTrue 1 (some .boolean) :: ((wsX4_isTrue_r1 ++ (wsX4_isTrue_r2 ++ wsX4_isTrue_r3)) ++ wsX40 ++ wsX00 ++ wsX20)
def wsX4_checksum_r1 : List Cond := [Cond.constantLong RX4 197 (7), Cond.fieldLink RX4 10 "Twicebook" "book" "LTwicebook$Page;", Cond.constantLong RX4 199 (31), Cond.fieldLink RX4 19 "Twicebook" "past" "LTwicebook$Past;", Cond.methodLink RX4 72 yX2_count, Cond.instanceMethod yX2_count, Cond.selects RX2 yX2_count yX2_count, Cond.initialized RX2, Cond.code yX2_count cX2_count 1 (some .int), Cond.fieldLink RX2 18 "Twicebook$Row" "count" "I", Cond.methodLink RX4 105 yX2_keyIn, Cond.instanceMethod yX2_keyIn, Cond.selects RX2 yX2_keyIn yX2_keyIn, Cond.code yX2_keyIn cX2_keyIn 2 (some .int), Cond.fieldLink RX2 9 "Twicebook$Row" "keys" "[I", Cond.methodLink RX2 22 yX2_holdsPlace, Cond.instanceMethod yX2_holdsPlace, Cond.selects RX2 yX2_holdsPlace yX2_holdsPlace, Cond.code yX2_holdsPlace cX2_holdsPlace 2 (some .boolean), Cond.methodLink RX4 111 yX2_valueIn, Cond.instanceMethod yX2_valueIn, Cond.selects RX2 yX2_valueIn yX2_valueIn, Cond.code yX2_valueIn cX2_valueIn 2 (some .int), Cond.fieldLink RX2 15 "Twicebook$Row" "values" "[I"]
def wsX4_checksum_r2 : List Cond := [Cond.methodLink RX4 176 yX1_kept, Cond.instanceMethod yX1_kept, Cond.selects RX1 yX1_kept yX1_kept, Cond.initialized RX1, Cond.code yX1_kept cX1_kept 1 (some .int), Cond.fieldLink RX1 22 "Twicebook$Past" "kept" "I"]
def wsX4_checksum : List Cond := .code yX4_checksum cX4_checksum 4 (some .long) :: ((wsX4_checksum_r1 ++ wsX4_checksum_r2) ++ wsX40 ++ wsX00 ++ wsX20 ++ wsX10)
def wsX5_init : List Cond := .code yX5_init cX5_init 1 none :: ([.methodLink RX5 1 objectInit, .instanceMethod objectInit, .code objectInit ⟨#[0xb1]⟩ 1 none, .arrayClass .int, .fieldLink RX5 9 "TwicebookModel" "come" "[I", .fieldLink RX5 13 "TwicebookModel" "values" "[I", .fieldLink RX5 16 "TwicebookModel" "ask" "[I", .fieldLink RX5 19 "TwicebookModel" "limit" "I", .fieldLink RX5 23 "TwicebookModel" "way" "C", .classLink RX5 27 "[[I", .fieldLink RX5 29 "TwicebookModel" "comes" "[[I", .fieldLink RX5 32 "TwicebookModel" "valueRows" "[[I", .fieldLink RX5 35 "TwicebookModel" "asks" "[[I", .fieldLink RX5 38 "TwicebookModel" "sizes" "[I", .fieldLink RX5 41 "TwicebookModel" "limits" "[I", .arrayClass .char, .fieldLink RX5 44 "TwicebookModel" "ways" "[C", .fieldLink RX5 48 "TwicebookModel" "path" "[I", .fieldLink RX5 51 "TwicebookModel" "last" "I"] ++ wsX50)
def wsX5_thrown : List Cond := .code yX5_thrown cX5_thrown 1 (some .int) :: ([.fieldLink RX5 54 "TwicebookModel" "thrown" "I"] ++ wsX50)
def wsX5_no : List Cond := .code yX5_no cX5_no 3 (some .boolean) :: ([.fieldLink RX5 54 "TwicebookModel" "thrown" "I"] ++ wsX50)
def wsX5_isOrder : List Cond := .code yX5_isOrder cX5_isOrder 1 (some .boolean) :: ([])
def wsX5_in : List Cond := .code yX5_in cX5_in 3 (some .boolean) :: ([])
def wsX5_row : List Cond := .code yX5_row cX5_row 2 (some (.array .int)) :: ([.fieldLink RX5 9 "TwicebookModel" "come" "[I", .fieldLink RX5 16 "TwicebookModel" "ask" "[I"] ++ wsX50)
def wsX5_place : List Cond := .code yX5_place cX5_place 4 (some .int) :: ([.fieldLink RX5 57 "TwicebookModel" "size" "I"] ++ wsX50)
def wsX5_copied : List Cond := .code yX5_copied cX5_copied 3 none :: ([])
def wsX5_moved : List Cond := .code yX5_moved cX5_moved 3 none :: ([.fieldLink RX5 29 "TwicebookModel" "comes" "[[I", .fieldLink RX5 32 "TwicebookModel" "valueRows" "[[I", .fieldLink RX5 35 "TwicebookModel" "asks" "[[I", .fieldLink RX5 38 "TwicebookModel" "sizes" "[I", .fieldLink RX5 41 "TwicebookModel" "limits" "[I", .fieldLink RX5 44 "TwicebookModel" "ways" "[C", .methodLink RX5 60 yX5_copied, .static yX5_copied, .initialized RX5, .code yX5_copied cX5_copied 3 none] ++ wsX50)
def wsX5_keeps : List Cond := .code yX5_keeps cX5_keeps 2 none :: ([.fieldLink RX5 64 "TwicebookModel" "kept" "I", .fieldLink RX5 9 "TwicebookModel" "come" "[I", .fieldLink RX5 29 "TwicebookModel" "comes" "[[I", .fieldLink RX5 13 "TwicebookModel" "values" "[I", .fieldLink RX5 32 "TwicebookModel" "valueRows" "[[I", .fieldLink RX5 16 "TwicebookModel" "ask" "[I", .fieldLink RX5 35 "TwicebookModel" "asks" "[[I", .fieldLink RX5 38 "TwicebookModel" "sizes" "[I", .fieldLink RX5 57 "TwicebookModel" "size" "I", .fieldLink RX5 41 "TwicebookModel" "limits" "[I", .fieldLink RX5 19 "TwicebookModel" "limit" "I", .fieldLink RX5 44 "TwicebookModel" "ways" "[C", .fieldLink RX5 23 "TwicebookModel" "way" "C", .methodLink RX5 67 yX5_moved, .instanceMethod yX5_moved, .selects RX5 yX5_moved yX5_moved, .initialized RX5, .code yX5_moved cX5_moved 3 none, .methodLink RX5 60 yX5_copied, .static yX5_copied, .code yX5_copied cX5_copied 3 none] ++ wsX50)
def wsX5_changes_r1 : List Cond := [Cond.fieldLink RX5 74 "TwicebookModel" "isWalk" "Z", Cond.methodLink RX5 71 yX5_keeps, Cond.instanceMethod yX5_keeps, Cond.selects RX5 yX5_keeps yX5_keeps, Cond.initialized RX5, Cond.code yX5_keeps cX5_keeps 2 none, Cond.fieldLink RX5 64 "TwicebookModel" "kept" "I", Cond.fieldLink RX5 9 "TwicebookModel" "come" "[I", Cond.fieldLink RX5 29 "TwicebookModel" "comes" "[[I", Cond.fieldLink RX5 13 "TwicebookModel" "values" "[I", Cond.fieldLink RX5 32 "TwicebookModel" "valueRows" "[[I", Cond.fieldLink RX5 16 "TwicebookModel" "ask" "[I", Cond.fieldLink RX5 35 "TwicebookModel" "asks" "[[I", Cond.fieldLink RX5 38 "TwicebookModel" "sizes" "[I", Cond.fieldLink RX5 57 "TwicebookModel" "size" "I", Cond.fieldLink RX5 41 "TwicebookModel" "limits" "[I", Cond.fieldLink RX5 19 "TwicebookModel" "limit" "I", Cond.fieldLink RX5 44 "TwicebookModel" "ways" "[C", Cond.fieldLink RX5 23 "TwicebookModel" "way" "C", Cond.methodLink RX5 67 yX5_moved, Cond.instanceMethod yX5_moved, Cond.selects RX5 yX5_moved yX5_moved, Cond.code yX5_moved cX5_moved 3 none, Cond.methodLink RX5 60 yX5_copied]
def wsX5_changes_r2 : List Cond := [Cond.static yX5_copied, Cond.code yX5_copied cX5_copied 3 none]
def wsX5_changes : List Cond := .code yX5_changes cX5_changes 1 none :: ((wsX5_changes_r1 ++ wsX5_changes_r2) ++ wsX50)
def wsX5_touched : List Cond := .code yX5_touched cX5_touched 4 none :: ([.fieldLink RX5 16 "TwicebookModel" "ask" "[I", .fieldLink RX5 57 "TwicebookModel" "size" "I", .methodLink RX5 78 yX5_place, .instanceMethod yX5_place, .selects RX5 yX5_place yX5_place, .initialized RX5, .code yX5_place cX5_place 4 (some .int)] ++ wsX50)
def wsX5_out : List Cond := .code yX5_out cX5_out 4 none :: ([.fieldLink RX5 9 "TwicebookModel" "come" "[I", .fieldLink RX5 57 "TwicebookModel" "size" "I", .fieldLink RX5 13 "TwicebookModel" "values" "[I", .fieldLink RX5 16 "TwicebookModel" "ask" "[I", .methodLink RX5 78 yX5_place, .instanceMethod yX5_place, .selects RX5 yX5_place yX5_place, .initialized RX5, .code yX5_place cX5_place 4 (some .int)] ++ wsX50)
def wsX5_comesIn : List Cond := .code yX5_comesIn cX5_comesIn 4 (some .int) :: ([.fieldLink RX5 9 "TwicebookModel" "come" "[I", .fieldLink RX5 57 "TwicebookModel" "size" "I", .fieldLink RX5 13 "TwicebookModel" "values" "[I", .fieldLink RX5 16 "TwicebookModel" "ask" "[I", .fieldLink RX5 19 "TwicebookModel" "limit" "I", .fieldLink RX5 23 "TwicebookModel" "way" "C", .methodLink RX5 82 yX5_row, .instanceMethod yX5_row, .selects RX5 yX5_row yX5_row, .initialized RX5, .code yX5_row cX5_row 2 (some (.array .int)), .methodLink RX5 86 yX5_out, .instanceMethod yX5_out, .selects RX5 yX5_out yX5_out, .code yX5_out cX5_out 4 none, .methodLink RX5 78 yX5_place, .instanceMethod yX5_place, .selects RX5 yX5_place yX5_place, .code yX5_place cX5_place 4 (some .int)] ++ wsX50)
def wsX5_put_r1 : List Cond := [Cond.fieldLink RX5 9 "TwicebookModel" "come" "[I", Cond.fieldLink RX5 13 "TwicebookModel" "values" "[I", Cond.methodLink RX5 90 yX5_in, Cond.static yX5_in, Cond.initialized RX5, Cond.code yX5_in cX5_in 3 (some .boolean), Cond.methodLink RX5 94 yX5_no, Cond.instanceMethod yX5_no, Cond.selects RX5 yX5_no yX5_no, Cond.code yX5_no cX5_no 3 (some .boolean), Cond.fieldLink RX5 54 "TwicebookModel" "thrown" "I", Cond.methodLink RX5 98 yX5_changes, Cond.instanceMethod yX5_changes, Cond.selects RX5 yX5_changes yX5_changes, Cond.code yX5_changes cX5_changes 1 none, Cond.fieldLink RX5 74 "TwicebookModel" "isWalk" "Z", Cond.methodLink RX5 71 yX5_keeps, Cond.instanceMethod yX5_keeps, Cond.selects RX5 yX5_keeps yX5_keeps, Cond.code yX5_keeps cX5_keeps 2 none, Cond.fieldLink RX5 64 "TwicebookModel" "kept" "I", Cond.fieldLink RX5 29 "TwicebookModel" "comes" "[[I", Cond.fieldLink RX5 32 "TwicebookModel" "valueRows" "[[I", Cond.fieldLink RX5 16 "TwicebookModel" "ask" "[I"]
def wsX5_put_r2 : List Cond := [Cond.fieldLink RX5 35 "TwicebookModel" "asks" "[[I", Cond.fieldLink RX5 38 "TwicebookModel" "sizes" "[I", Cond.fieldLink RX5 57 "TwicebookModel" "size" "I", Cond.fieldLink RX5 41 "TwicebookModel" "limits" "[I", Cond.fieldLink RX5 19 "TwicebookModel" "limit" "I", Cond.fieldLink RX5 44 "TwicebookModel" "ways" "[C", Cond.fieldLink RX5 23 "TwicebookModel" "way" "C", Cond.methodLink RX5 67 yX5_moved, Cond.instanceMethod yX5_moved, Cond.selects RX5 yX5_moved yX5_moved, Cond.code yX5_moved cX5_moved 3 none, Cond.methodLink RX5 60 yX5_copied, Cond.static yX5_copied, Cond.code yX5_copied cX5_copied 3 none, Cond.methodLink RX5 78 yX5_place, Cond.instanceMethod yX5_place, Cond.selects RX5 yX5_place yX5_place, Cond.code yX5_place cX5_place 4 (some .int), Cond.methodLink RX5 101 yX5_comesIn, Cond.instanceMethod yX5_comesIn, Cond.selects RX5 yX5_comesIn yX5_comesIn, Cond.code yX5_comesIn cX5_comesIn 4 (some .int), Cond.methodLink RX5 82 yX5_row, Cond.instanceMethod yX5_row]
def wsX5_put_r3 : List Cond := [Cond.selects RX5 yX5_row yX5_row, Cond.code yX5_row cX5_row 2 (some (.array .int)), Cond.methodLink RX5 86 yX5_out, Cond.instanceMethod yX5_out, Cond.selects RX5 yX5_out yX5_out, Cond.code yX5_out cX5_out 4 none, Cond.methodLink RX5 105 yX5_touched, Cond.instanceMethod yX5_touched, Cond.selects RX5 yX5_touched yX5_touched, Cond.code yX5_touched cX5_touched 4 none]
def wsX5_put : List Cond := .code yX5_put cX5_put 4 (some .int) :: ((wsX5_put_r1 ++ (wsX5_put_r2 ++ wsX5_put_r3)) ++ wsX50)
def wsX5_putIfAbsent_r1 : List Cond := [Cond.fieldLink RX5 9 "TwicebookModel" "come" "[I", Cond.methodLink RX5 90 yX5_in, Cond.static yX5_in, Cond.initialized RX5, Cond.code yX5_in cX5_in 3 (some .boolean), Cond.methodLink RX5 94 yX5_no, Cond.instanceMethod yX5_no, Cond.selects RX5 yX5_no yX5_no, Cond.code yX5_no cX5_no 3 (some .boolean), Cond.fieldLink RX5 54 "TwicebookModel" "thrown" "I", Cond.methodLink RX5 98 yX5_changes, Cond.instanceMethod yX5_changes, Cond.selects RX5 yX5_changes yX5_changes, Cond.code yX5_changes cX5_changes 1 none, Cond.fieldLink RX5 74 "TwicebookModel" "isWalk" "Z", Cond.methodLink RX5 71 yX5_keeps, Cond.instanceMethod yX5_keeps, Cond.selects RX5 yX5_keeps yX5_keeps, Cond.code yX5_keeps cX5_keeps 2 none, Cond.fieldLink RX5 64 "TwicebookModel" "kept" "I", Cond.fieldLink RX5 29 "TwicebookModel" "comes" "[[I", Cond.fieldLink RX5 13 "TwicebookModel" "values" "[I", Cond.fieldLink RX5 32 "TwicebookModel" "valueRows" "[[I", Cond.fieldLink RX5 16 "TwicebookModel" "ask" "[I"]
def wsX5_putIfAbsent_r2 : List Cond := [Cond.fieldLink RX5 35 "TwicebookModel" "asks" "[[I", Cond.fieldLink RX5 38 "TwicebookModel" "sizes" "[I", Cond.fieldLink RX5 57 "TwicebookModel" "size" "I", Cond.fieldLink RX5 41 "TwicebookModel" "limits" "[I", Cond.fieldLink RX5 19 "TwicebookModel" "limit" "I", Cond.fieldLink RX5 44 "TwicebookModel" "ways" "[C", Cond.fieldLink RX5 23 "TwicebookModel" "way" "C", Cond.methodLink RX5 67 yX5_moved, Cond.instanceMethod yX5_moved, Cond.selects RX5 yX5_moved yX5_moved, Cond.code yX5_moved cX5_moved 3 none, Cond.methodLink RX5 60 yX5_copied, Cond.static yX5_copied, Cond.code yX5_copied cX5_copied 3 none, Cond.methodLink RX5 78 yX5_place, Cond.instanceMethod yX5_place, Cond.selects RX5 yX5_place yX5_place, Cond.code yX5_place cX5_place 4 (some .int), Cond.methodLink RX5 105 yX5_touched, Cond.instanceMethod yX5_touched, Cond.selects RX5 yX5_touched yX5_touched, Cond.code yX5_touched cX5_touched 4 none, Cond.methodLink RX5 101 yX5_comesIn, Cond.instanceMethod yX5_comesIn]
def wsX5_putIfAbsent_r3 : List Cond := [Cond.selects RX5 yX5_comesIn yX5_comesIn, Cond.code yX5_comesIn cX5_comesIn 4 (some .int), Cond.methodLink RX5 82 yX5_row, Cond.instanceMethod yX5_row, Cond.selects RX5 yX5_row yX5_row, Cond.code yX5_row cX5_row 2 (some (.array .int)), Cond.methodLink RX5 86 yX5_out, Cond.instanceMethod yX5_out, Cond.selects RX5 yX5_out yX5_out, Cond.code yX5_out cX5_out 4 none]
def wsX5_putIfAbsent : List Cond := .code yX5_putIfAbsent cX5_putIfAbsent 3 (some .boolean) :: ((wsX5_putIfAbsent_r1 ++ (wsX5_putIfAbsent_r2 ++ wsX5_putIfAbsent_r3)) ++ wsX50)
def wsX5_get_r1 : List Cond := [Cond.fieldLink RX5 9 "TwicebookModel" "come" "[I", Cond.fieldLink RX5 13 "TwicebookModel" "values" "[I", Cond.methodLink RX5 78 yX5_place, Cond.instanceMethod yX5_place, Cond.selects RX5 yX5_place yX5_place, Cond.initialized RX5, Cond.code yX5_place cX5_place 4 (some .int), Cond.fieldLink RX5 57 "TwicebookModel" "size" "I", Cond.methodLink RX5 94 yX5_no, Cond.instanceMethod yX5_no, Cond.selects RX5 yX5_no yX5_no, Cond.code yX5_no cX5_no 3 (some .boolean), Cond.fieldLink RX5 54 "TwicebookModel" "thrown" "I", Cond.methodLink RX5 98 yX5_changes, Cond.instanceMethod yX5_changes, Cond.selects RX5 yX5_changes yX5_changes, Cond.code yX5_changes cX5_changes 1 none, Cond.fieldLink RX5 74 "TwicebookModel" "isWalk" "Z", Cond.methodLink RX5 71 yX5_keeps, Cond.instanceMethod yX5_keeps, Cond.selects RX5 yX5_keeps yX5_keeps, Cond.code yX5_keeps cX5_keeps 2 none, Cond.fieldLink RX5 64 "TwicebookModel" "kept" "I", Cond.fieldLink RX5 29 "TwicebookModel" "comes" "[[I"]
def wsX5_get_r2 : List Cond := [Cond.fieldLink RX5 32 "TwicebookModel" "valueRows" "[[I", Cond.fieldLink RX5 16 "TwicebookModel" "ask" "[I", Cond.fieldLink RX5 35 "TwicebookModel" "asks" "[[I", Cond.fieldLink RX5 38 "TwicebookModel" "sizes" "[I", Cond.fieldLink RX5 41 "TwicebookModel" "limits" "[I", Cond.fieldLink RX5 19 "TwicebookModel" "limit" "I", Cond.fieldLink RX5 44 "TwicebookModel" "ways" "[C", Cond.fieldLink RX5 23 "TwicebookModel" "way" "C", Cond.methodLink RX5 67 yX5_moved, Cond.instanceMethod yX5_moved, Cond.selects RX5 yX5_moved yX5_moved, Cond.code yX5_moved cX5_moved 3 none, Cond.methodLink RX5 60 yX5_copied, Cond.static yX5_copied, Cond.code yX5_copied cX5_copied 3 none, Cond.methodLink RX5 105 yX5_touched, Cond.instanceMethod yX5_touched, Cond.selects RX5 yX5_touched yX5_touched, Cond.code yX5_touched cX5_touched 4 none]
def wsX5_get : List Cond := .code yX5_get cX5_get 3 (some .int) :: ((wsX5_get_r1 ++ wsX5_get_r2) ++ wsX50)
def wsX5_getOr_r1 : List Cond := [Cond.fieldLink RX5 54 "TwicebookModel" "thrown" "I", Cond.fieldLink RX5 9 "TwicebookModel" "come" "[I", Cond.fieldLink RX5 13 "TwicebookModel" "values" "[I", Cond.methodLink RX5 78 yX5_place, Cond.instanceMethod yX5_place, Cond.selects RX5 yX5_place yX5_place, Cond.initialized RX5, Cond.code yX5_place cX5_place 4 (some .int), Cond.fieldLink RX5 57 "TwicebookModel" "size" "I", Cond.methodLink RX5 98 yX5_changes, Cond.instanceMethod yX5_changes, Cond.selects RX5 yX5_changes yX5_changes, Cond.code yX5_changes cX5_changes 1 none, Cond.fieldLink RX5 74 "TwicebookModel" "isWalk" "Z", Cond.methodLink RX5 71 yX5_keeps, Cond.instanceMethod yX5_keeps, Cond.selects RX5 yX5_keeps yX5_keeps, Cond.code yX5_keeps cX5_keeps 2 none, Cond.fieldLink RX5 64 "TwicebookModel" "kept" "I", Cond.fieldLink RX5 29 "TwicebookModel" "comes" "[[I", Cond.fieldLink RX5 32 "TwicebookModel" "valueRows" "[[I", Cond.fieldLink RX5 16 "TwicebookModel" "ask" "[I", Cond.fieldLink RX5 35 "TwicebookModel" "asks" "[[I", Cond.fieldLink RX5 38 "TwicebookModel" "sizes" "[I"]
def wsX5_getOr_r2 : List Cond := [Cond.fieldLink RX5 41 "TwicebookModel" "limits" "[I", Cond.fieldLink RX5 19 "TwicebookModel" "limit" "I", Cond.fieldLink RX5 44 "TwicebookModel" "ways" "[C", Cond.fieldLink RX5 23 "TwicebookModel" "way" "C", Cond.methodLink RX5 67 yX5_moved, Cond.instanceMethod yX5_moved, Cond.selects RX5 yX5_moved yX5_moved, Cond.code yX5_moved cX5_moved 3 none, Cond.methodLink RX5 60 yX5_copied, Cond.static yX5_copied, Cond.code yX5_copied cX5_copied 3 none, Cond.methodLink RX5 105 yX5_touched, Cond.instanceMethod yX5_touched, Cond.selects RX5 yX5_touched yX5_touched, Cond.code yX5_touched cX5_touched 4 none]
def wsX5_getOr : List Cond := .code yX5_getOr cX5_getOr 4 (some .int) :: ((wsX5_getOr_r1 ++ wsX5_getOr_r2) ++ wsX50)
def wsX5_replace_r1 : List Cond := [Cond.fieldLink RX5 54 "TwicebookModel" "thrown" "I", Cond.fieldLink RX5 9 "TwicebookModel" "come" "[I", Cond.fieldLink RX5 13 "TwicebookModel" "values" "[I", Cond.methodLink RX5 78 yX5_place, Cond.instanceMethod yX5_place, Cond.selects RX5 yX5_place yX5_place, Cond.initialized RX5, Cond.code yX5_place cX5_place 4 (some .int), Cond.fieldLink RX5 57 "TwicebookModel" "size" "I", Cond.methodLink RX5 98 yX5_changes, Cond.instanceMethod yX5_changes, Cond.selects RX5 yX5_changes yX5_changes, Cond.code yX5_changes cX5_changes 1 none, Cond.fieldLink RX5 74 "TwicebookModel" "isWalk" "Z", Cond.methodLink RX5 71 yX5_keeps, Cond.instanceMethod yX5_keeps, Cond.selects RX5 yX5_keeps yX5_keeps, Cond.code yX5_keeps cX5_keeps 2 none, Cond.fieldLink RX5 64 "TwicebookModel" "kept" "I", Cond.fieldLink RX5 29 "TwicebookModel" "comes" "[[I", Cond.fieldLink RX5 32 "TwicebookModel" "valueRows" "[[I", Cond.fieldLink RX5 16 "TwicebookModel" "ask" "[I", Cond.fieldLink RX5 35 "TwicebookModel" "asks" "[[I", Cond.fieldLink RX5 38 "TwicebookModel" "sizes" "[I"]
def wsX5_replace_r2 : List Cond := [Cond.fieldLink RX5 41 "TwicebookModel" "limits" "[I", Cond.fieldLink RX5 19 "TwicebookModel" "limit" "I", Cond.fieldLink RX5 44 "TwicebookModel" "ways" "[C", Cond.fieldLink RX5 23 "TwicebookModel" "way" "C", Cond.methodLink RX5 67 yX5_moved, Cond.instanceMethod yX5_moved, Cond.selects RX5 yX5_moved yX5_moved, Cond.code yX5_moved cX5_moved 3 none, Cond.methodLink RX5 60 yX5_copied, Cond.static yX5_copied, Cond.code yX5_copied cX5_copied 3 none, Cond.methodLink RX5 105 yX5_touched, Cond.instanceMethod yX5_touched, Cond.selects RX5 yX5_touched yX5_touched, Cond.code yX5_touched cX5_touched 4 none]
def wsX5_replace : List Cond := .code yX5_replace cX5_replace 4 (some .boolean) :: ((wsX5_replace_r1 ++ wsX5_replace_r2) ++ wsX50)
def wsX5_replaceIf_r1 : List Cond := [Cond.fieldLink RX5 54 "TwicebookModel" "thrown" "I", Cond.fieldLink RX5 9 "TwicebookModel" "come" "[I", Cond.fieldLink RX5 13 "TwicebookModel" "values" "[I", Cond.methodLink RX5 78 yX5_place, Cond.instanceMethod yX5_place, Cond.selects RX5 yX5_place yX5_place, Cond.initialized RX5, Cond.code yX5_place cX5_place 4 (some .int), Cond.fieldLink RX5 57 "TwicebookModel" "size" "I", Cond.methodLink RX5 98 yX5_changes, Cond.instanceMethod yX5_changes, Cond.selects RX5 yX5_changes yX5_changes, Cond.code yX5_changes cX5_changes 1 none, Cond.fieldLink RX5 74 "TwicebookModel" "isWalk" "Z", Cond.methodLink RX5 71 yX5_keeps, Cond.instanceMethod yX5_keeps, Cond.selects RX5 yX5_keeps yX5_keeps, Cond.code yX5_keeps cX5_keeps 2 none, Cond.fieldLink RX5 64 "TwicebookModel" "kept" "I", Cond.fieldLink RX5 29 "TwicebookModel" "comes" "[[I", Cond.fieldLink RX5 32 "TwicebookModel" "valueRows" "[[I", Cond.fieldLink RX5 16 "TwicebookModel" "ask" "[I", Cond.fieldLink RX5 35 "TwicebookModel" "asks" "[[I", Cond.fieldLink RX5 38 "TwicebookModel" "sizes" "[I"]
def wsX5_replaceIf_r2 : List Cond := [Cond.fieldLink RX5 41 "TwicebookModel" "limits" "[I", Cond.fieldLink RX5 19 "TwicebookModel" "limit" "I", Cond.fieldLink RX5 44 "TwicebookModel" "ways" "[C", Cond.fieldLink RX5 23 "TwicebookModel" "way" "C", Cond.methodLink RX5 67 yX5_moved, Cond.instanceMethod yX5_moved, Cond.selects RX5 yX5_moved yX5_moved, Cond.code yX5_moved cX5_moved 3 none, Cond.methodLink RX5 60 yX5_copied, Cond.static yX5_copied, Cond.code yX5_copied cX5_copied 3 none, Cond.methodLink RX5 105 yX5_touched, Cond.instanceMethod yX5_touched, Cond.selects RX5 yX5_touched yX5_touched, Cond.code yX5_touched cX5_touched 4 none]
def wsX5_replaceIf : List Cond := .code yX5_replaceIf cX5_replaceIf 5 (some .boolean) :: ((wsX5_replaceIf_r1 ++ wsX5_replaceIf_r2) ++ wsX50)
def wsX5_look : List Cond := .code yX5_look cX5_look 3 (some .int) :: ([.fieldLink RX5 9 "TwicebookModel" "come" "[I", .fieldLink RX5 13 "TwicebookModel" "values" "[I", .methodLink RX5 78 yX5_place, .instanceMethod yX5_place, .selects RX5 yX5_place yX5_place, .initialized RX5, .code yX5_place cX5_place 4 (some .int), .fieldLink RX5 57 "TwicebookModel" "size" "I", .methodLink RX5 94 yX5_no, .instanceMethod yX5_no, .selects RX5 yX5_no yX5_no, .code yX5_no cX5_no 3 (some .boolean), .fieldLink RX5 54 "TwicebookModel" "thrown" "I"] ++ wsX50)
def wsX5_has : List Cond := .code yX5_has cX5_has 2 (some .boolean) :: ([.fieldLink RX5 54 "TwicebookModel" "thrown" "I", .fieldLink RX5 9 "TwicebookModel" "come" "[I", .methodLink RX5 78 yX5_place, .instanceMethod yX5_place, .selects RX5 yX5_place yX5_place, .initialized RX5, .code yX5_place cX5_place 4 (some .int), .fieldLink RX5 57 "TwicebookModel" "size" "I"] ++ wsX50)
def wsX5_remove_r1 : List Cond := [Cond.fieldLink RX5 9 "TwicebookModel" "come" "[I", Cond.fieldLink RX5 13 "TwicebookModel" "values" "[I", Cond.methodLink RX5 78 yX5_place, Cond.instanceMethod yX5_place, Cond.selects RX5 yX5_place yX5_place, Cond.initialized RX5, Cond.code yX5_place cX5_place 4 (some .int), Cond.fieldLink RX5 57 "TwicebookModel" "size" "I", Cond.methodLink RX5 94 yX5_no, Cond.instanceMethod yX5_no, Cond.selects RX5 yX5_no yX5_no, Cond.code yX5_no cX5_no 3 (some .boolean), Cond.fieldLink RX5 54 "TwicebookModel" "thrown" "I", Cond.methodLink RX5 98 yX5_changes, Cond.instanceMethod yX5_changes, Cond.selects RX5 yX5_changes yX5_changes, Cond.code yX5_changes cX5_changes 1 none, Cond.fieldLink RX5 74 "TwicebookModel" "isWalk" "Z", Cond.methodLink RX5 71 yX5_keeps, Cond.instanceMethod yX5_keeps, Cond.selects RX5 yX5_keeps yX5_keeps, Cond.code yX5_keeps cX5_keeps 2 none, Cond.fieldLink RX5 64 "TwicebookModel" "kept" "I", Cond.fieldLink RX5 29 "TwicebookModel" "comes" "[[I"]
def wsX5_remove_r2 : List Cond := [Cond.fieldLink RX5 32 "TwicebookModel" "valueRows" "[[I", Cond.fieldLink RX5 16 "TwicebookModel" "ask" "[I", Cond.fieldLink RX5 35 "TwicebookModel" "asks" "[[I", Cond.fieldLink RX5 38 "TwicebookModel" "sizes" "[I", Cond.fieldLink RX5 41 "TwicebookModel" "limits" "[I", Cond.fieldLink RX5 19 "TwicebookModel" "limit" "I", Cond.fieldLink RX5 44 "TwicebookModel" "ways" "[C", Cond.fieldLink RX5 23 "TwicebookModel" "way" "C", Cond.methodLink RX5 67 yX5_moved, Cond.instanceMethod yX5_moved, Cond.selects RX5 yX5_moved yX5_moved, Cond.code yX5_moved cX5_moved 3 none, Cond.methodLink RX5 60 yX5_copied, Cond.static yX5_copied, Cond.code yX5_copied cX5_copied 3 none, Cond.methodLink RX5 86 yX5_out, Cond.instanceMethod yX5_out, Cond.selects RX5 yX5_out yX5_out, Cond.code yX5_out cX5_out 4 none]
def wsX5_remove : List Cond := .code yX5_remove cX5_remove 4 (some .int) :: ((wsX5_remove_r1 ++ wsX5_remove_r2) ++ wsX50)
def wsX5_size : List Cond := .code yX5_size cX5_size 1 (some .int) :: ([.fieldLink RX5 54 "TwicebookModel" "thrown" "I", .fieldLink RX5 57 "TwicebookModel" "size" "I"] ++ wsX50)
def wsX5_limit_r1 : List Cond := [Cond.fieldLink RX5 19 "TwicebookModel" "limit" "I", Cond.fieldLink RX5 57 "TwicebookModel" "size" "I", Cond.fieldLink RX5 23 "TwicebookModel" "way" "C", Cond.methodLink RX5 90 yX5_in, Cond.static yX5_in, Cond.initialized RX5, Cond.code yX5_in cX5_in 3 (some .boolean), Cond.methodLink RX5 94 yX5_no, Cond.instanceMethod yX5_no, Cond.selects RX5 yX5_no yX5_no, Cond.code yX5_no cX5_no 3 (some .boolean), Cond.fieldLink RX5 54 "TwicebookModel" "thrown" "I", Cond.methodLink RX5 98 yX5_changes, Cond.instanceMethod yX5_changes, Cond.selects RX5 yX5_changes yX5_changes, Cond.code yX5_changes cX5_changes 1 none, Cond.fieldLink RX5 74 "TwicebookModel" "isWalk" "Z", Cond.methodLink RX5 71 yX5_keeps, Cond.instanceMethod yX5_keeps, Cond.selects RX5 yX5_keeps yX5_keeps, Cond.code yX5_keeps cX5_keeps 2 none, Cond.fieldLink RX5 64 "TwicebookModel" "kept" "I", Cond.fieldLink RX5 9 "TwicebookModel" "come" "[I", Cond.fieldLink RX5 29 "TwicebookModel" "comes" "[[I"]
def wsX5_limit_r2 : List Cond := [Cond.fieldLink RX5 13 "TwicebookModel" "values" "[I", Cond.fieldLink RX5 32 "TwicebookModel" "valueRows" "[[I", Cond.fieldLink RX5 16 "TwicebookModel" "ask" "[I", Cond.fieldLink RX5 35 "TwicebookModel" "asks" "[[I", Cond.fieldLink RX5 38 "TwicebookModel" "sizes" "[I", Cond.fieldLink RX5 41 "TwicebookModel" "limits" "[I", Cond.fieldLink RX5 44 "TwicebookModel" "ways" "[C", Cond.methodLink RX5 67 yX5_moved, Cond.instanceMethod yX5_moved, Cond.selects RX5 yX5_moved yX5_moved, Cond.code yX5_moved cX5_moved 3 none, Cond.methodLink RX5 60 yX5_copied, Cond.static yX5_copied, Cond.code yX5_copied cX5_copied 3 none, Cond.methodLink RX5 82 yX5_row, Cond.instanceMethod yX5_row, Cond.selects RX5 yX5_row yX5_row, Cond.code yX5_row cX5_row 2 (some (.array .int)), Cond.methodLink RX5 86 yX5_out, Cond.instanceMethod yX5_out, Cond.selects RX5 yX5_out yX5_out, Cond.code yX5_out cX5_out 4 none, Cond.methodLink RX5 78 yX5_place, Cond.instanceMethod yX5_place]
def wsX5_limit_r3 : List Cond := [Cond.selects RX5 yX5_place yX5_place, Cond.code yX5_place cX5_place 4 (some .int)]
def wsX5_limit : List Cond := .code yX5_limit cX5_limit 3 (some .int) :: ((wsX5_limit_r1 ++ (wsX5_limit_r2 ++ wsX5_limit_r3)) ++ wsX50)
def wsX5_way_r1 : List Cond := [Cond.fieldLink RX5 23 "TwicebookModel" "way" "C", Cond.methodLink RX5 108 yX5_isOrder, Cond.static yX5_isOrder, Cond.initialized RX5, Cond.code yX5_isOrder cX5_isOrder 1 (some .boolean), Cond.methodLink RX5 94 yX5_no, Cond.instanceMethod yX5_no, Cond.selects RX5 yX5_no yX5_no, Cond.code yX5_no cX5_no 3 (some .boolean), Cond.fieldLink RX5 54 "TwicebookModel" "thrown" "I", Cond.methodLink RX5 98 yX5_changes, Cond.instanceMethod yX5_changes, Cond.selects RX5 yX5_changes yX5_changes, Cond.code yX5_changes cX5_changes 1 none, Cond.fieldLink RX5 74 "TwicebookModel" "isWalk" "Z", Cond.methodLink RX5 71 yX5_keeps, Cond.instanceMethod yX5_keeps, Cond.selects RX5 yX5_keeps yX5_keeps, Cond.code yX5_keeps cX5_keeps 2 none, Cond.fieldLink RX5 64 "TwicebookModel" "kept" "I", Cond.fieldLink RX5 9 "TwicebookModel" "come" "[I", Cond.fieldLink RX5 29 "TwicebookModel" "comes" "[[I", Cond.fieldLink RX5 13 "TwicebookModel" "values" "[I", Cond.fieldLink RX5 32 "TwicebookModel" "valueRows" "[[I"]
def wsX5_way_r2 : List Cond := [Cond.fieldLink RX5 16 "TwicebookModel" "ask" "[I", Cond.fieldLink RX5 35 "TwicebookModel" "asks" "[[I", Cond.fieldLink RX5 38 "TwicebookModel" "sizes" "[I", Cond.fieldLink RX5 57 "TwicebookModel" "size" "I", Cond.fieldLink RX5 41 "TwicebookModel" "limits" "[I", Cond.fieldLink RX5 19 "TwicebookModel" "limit" "I", Cond.fieldLink RX5 44 "TwicebookModel" "ways" "[C", Cond.methodLink RX5 67 yX5_moved, Cond.instanceMethod yX5_moved, Cond.selects RX5 yX5_moved yX5_moved, Cond.code yX5_moved cX5_moved 3 none, Cond.methodLink RX5 60 yX5_copied, Cond.static yX5_copied, Cond.code yX5_copied cX5_copied 3 none]
def wsX5_way : List Cond := .code yX5_way cX5_way 3 (some .char) :: ((wsX5_way_r1 ++ wsX5_way_r2) ++ wsX50)
def wsX5_keyAt : List Cond := .code yX5_keyAt cX5_keyAt 3 (some .int) :: ([.fieldLink RX5 57 "TwicebookModel" "size" "I", .methodLink RX5 108 yX5_isOrder, .static yX5_isOrder, .initialized RX5, .code yX5_isOrder cX5_isOrder 1 (some .boolean), .methodLink RX5 94 yX5_no, .instanceMethod yX5_no, .selects RX5 yX5_no yX5_no, .code yX5_no cX5_no 3 (some .boolean), .fieldLink RX5 54 "TwicebookModel" "thrown" "I", .methodLink RX5 90 yX5_in, .static yX5_in, .code yX5_in cX5_in 3 (some .boolean), .methodLink RX5 82 yX5_row, .instanceMethod yX5_row, .selects RX5 yX5_row yX5_row, .code yX5_row cX5_row 2 (some (.array .int)), .fieldLink RX5 9 "TwicebookModel" "come" "[I", .fieldLink RX5 16 "TwicebookModel" "ask" "[I"] ++ wsX50)
def wsX5_placeOf : List Cond := .code yX5_placeOf cX5_placeOf 4 (some .int) :: ([.methodLink RX5 108 yX5_isOrder, .static yX5_isOrder, .initialized RX5, .code yX5_isOrder cX5_isOrder 1 (some .boolean), .methodLink RX5 94 yX5_no, .instanceMethod yX5_no, .selects RX5 yX5_no yX5_no, .code yX5_no cX5_no 3 (some .boolean), .fieldLink RX5 54 "TwicebookModel" "thrown" "I", .methodLink RX5 82 yX5_row, .instanceMethod yX5_row, .selects RX5 yX5_row yX5_row, .code yX5_row cX5_row 2 (some (.array .int)), .fieldLink RX5 9 "TwicebookModel" "come" "[I", .fieldLink RX5 16 "TwicebookModel" "ask" "[I", .methodLink RX5 78 yX5_place, .instanceMethod yX5_place, .selects RX5 yX5_place yX5_place, .code yX5_place cX5_place 4 (some .int), .fieldLink RX5 57 "TwicebookModel" "size" "I"] ++ wsX50)
def wsX5_setAt_r1 : List Cond := [Cond.fieldLink RX5 57 "TwicebookModel" "size" "I", Cond.fieldLink RX5 9 "TwicebookModel" "come" "[I", Cond.fieldLink RX5 13 "TwicebookModel" "values" "[I", Cond.methodLink RX5 108 yX5_isOrder, Cond.static yX5_isOrder, Cond.initialized RX5, Cond.code yX5_isOrder cX5_isOrder 1 (some .boolean), Cond.methodLink RX5 94 yX5_no, Cond.instanceMethod yX5_no, Cond.selects RX5 yX5_no yX5_no, Cond.code yX5_no cX5_no 3 (some .boolean), Cond.fieldLink RX5 54 "TwicebookModel" "thrown" "I", Cond.methodLink RX5 90 yX5_in, Cond.static yX5_in, Cond.code yX5_in cX5_in 3 (some .boolean), Cond.methodLink RX5 98 yX5_changes, Cond.instanceMethod yX5_changes, Cond.selects RX5 yX5_changes yX5_changes, Cond.code yX5_changes cX5_changes 1 none, Cond.fieldLink RX5 74 "TwicebookModel" "isWalk" "Z", Cond.methodLink RX5 71 yX5_keeps, Cond.instanceMethod yX5_keeps, Cond.selects RX5 yX5_keeps yX5_keeps, Cond.code yX5_keeps cX5_keeps 2 none]
def wsX5_setAt_r2 : List Cond := [Cond.fieldLink RX5 64 "TwicebookModel" "kept" "I", Cond.fieldLink RX5 29 "TwicebookModel" "comes" "[[I", Cond.fieldLink RX5 32 "TwicebookModel" "valueRows" "[[I", Cond.fieldLink RX5 16 "TwicebookModel" "ask" "[I", Cond.fieldLink RX5 35 "TwicebookModel" "asks" "[[I", Cond.fieldLink RX5 38 "TwicebookModel" "sizes" "[I", Cond.fieldLink RX5 41 "TwicebookModel" "limits" "[I", Cond.fieldLink RX5 19 "TwicebookModel" "limit" "I", Cond.fieldLink RX5 44 "TwicebookModel" "ways" "[C", Cond.fieldLink RX5 23 "TwicebookModel" "way" "C", Cond.methodLink RX5 67 yX5_moved, Cond.instanceMethod yX5_moved, Cond.selects RX5 yX5_moved yX5_moved, Cond.code yX5_moved cX5_moved 3 none, Cond.methodLink RX5 60 yX5_copied, Cond.static yX5_copied, Cond.code yX5_copied cX5_copied 3 none, Cond.methodLink RX5 82 yX5_row, Cond.instanceMethod yX5_row, Cond.selects RX5 yX5_row yX5_row, Cond.code yX5_row cX5_row 2 (some (.array .int)), Cond.methodLink RX5 78 yX5_place, Cond.instanceMethod yX5_place, Cond.selects RX5 yX5_place yX5_place]
def wsX5_setAt_r3 : List Cond := [Cond.code yX5_place cX5_place 4 (some .int)]
def wsX5_setAt : List Cond := .code yX5_setAt cX5_setAt 6 (some .int) :: ((wsX5_setAt_r1 ++ (wsX5_setAt_r2 ++ wsX5_setAt_r3)) ++ wsX50)
def wsX5_removeAt_r1 : List Cond := [Cond.fieldLink RX5 57 "TwicebookModel" "size" "I", Cond.methodLink RX5 108 yX5_isOrder, Cond.static yX5_isOrder, Cond.initialized RX5, Cond.code yX5_isOrder cX5_isOrder 1 (some .boolean), Cond.methodLink RX5 94 yX5_no, Cond.instanceMethod yX5_no, Cond.selects RX5 yX5_no yX5_no, Cond.code yX5_no cX5_no 3 (some .boolean), Cond.fieldLink RX5 54 "TwicebookModel" "thrown" "I", Cond.methodLink RX5 90 yX5_in, Cond.static yX5_in, Cond.code yX5_in cX5_in 3 (some .boolean), Cond.methodLink RX5 98 yX5_changes, Cond.instanceMethod yX5_changes, Cond.selects RX5 yX5_changes yX5_changes, Cond.code yX5_changes cX5_changes 1 none, Cond.fieldLink RX5 74 "TwicebookModel" "isWalk" "Z", Cond.methodLink RX5 71 yX5_keeps, Cond.instanceMethod yX5_keeps, Cond.selects RX5 yX5_keeps yX5_keeps, Cond.code yX5_keeps cX5_keeps 2 none, Cond.fieldLink RX5 64 "TwicebookModel" "kept" "I", Cond.fieldLink RX5 9 "TwicebookModel" "come" "[I"]
def wsX5_removeAt_r2 : List Cond := [Cond.fieldLink RX5 29 "TwicebookModel" "comes" "[[I", Cond.fieldLink RX5 13 "TwicebookModel" "values" "[I", Cond.fieldLink RX5 32 "TwicebookModel" "valueRows" "[[I", Cond.fieldLink RX5 16 "TwicebookModel" "ask" "[I", Cond.fieldLink RX5 35 "TwicebookModel" "asks" "[[I", Cond.fieldLink RX5 38 "TwicebookModel" "sizes" "[I", Cond.fieldLink RX5 41 "TwicebookModel" "limits" "[I", Cond.fieldLink RX5 19 "TwicebookModel" "limit" "I", Cond.fieldLink RX5 44 "TwicebookModel" "ways" "[C", Cond.fieldLink RX5 23 "TwicebookModel" "way" "C", Cond.methodLink RX5 67 yX5_moved, Cond.instanceMethod yX5_moved, Cond.selects RX5 yX5_moved yX5_moved, Cond.code yX5_moved cX5_moved 3 none, Cond.methodLink RX5 60 yX5_copied, Cond.static yX5_copied, Cond.code yX5_copied cX5_copied 3 none, Cond.methodLink RX5 82 yX5_row, Cond.instanceMethod yX5_row, Cond.selects RX5 yX5_row yX5_row, Cond.code yX5_row cX5_row 2 (some (.array .int)), Cond.methodLink RX5 86 yX5_out, Cond.instanceMethod yX5_out, Cond.selects RX5 yX5_out yX5_out]
def wsX5_removeAt_r3 : List Cond := [Cond.code yX5_out cX5_out 4 none, Cond.methodLink RX5 78 yX5_place, Cond.instanceMethod yX5_place, Cond.selects RX5 yX5_place yX5_place, Cond.code yX5_place cX5_place 4 (some .int)]
def wsX5_removeAt : List Cond := .code yX5_removeAt cX5_removeAt 4 (some .int) :: ((wsX5_removeAt_r1 ++ (wsX5_removeAt_r2 ++ wsX5_removeAt_r3)) ++ wsX50)
def wsX5_thin_r1 : List Cond := [Cond.fieldLink RX5 57 "TwicebookModel" "size" "I", Cond.methodLink RX5 108 yX5_isOrder, Cond.static yX5_isOrder, Cond.initialized RX5, Cond.code yX5_isOrder cX5_isOrder 1 (some .boolean), Cond.methodLink RX5 90 yX5_in, Cond.static yX5_in, Cond.code yX5_in cX5_in 3 (some .boolean), Cond.methodLink RX5 94 yX5_no, Cond.instanceMethod yX5_no, Cond.selects RX5 yX5_no yX5_no, Cond.code yX5_no cX5_no 3 (some .boolean), Cond.fieldLink RX5 54 "TwicebookModel" "thrown" "I", Cond.methodLink RX5 98 yX5_changes, Cond.instanceMethod yX5_changes, Cond.selects RX5 yX5_changes yX5_changes, Cond.code yX5_changes cX5_changes 1 none, Cond.fieldLink RX5 74 "TwicebookModel" "isWalk" "Z", Cond.methodLink RX5 71 yX5_keeps, Cond.instanceMethod yX5_keeps, Cond.selects RX5 yX5_keeps yX5_keeps, Cond.code yX5_keeps cX5_keeps 2 none, Cond.fieldLink RX5 64 "TwicebookModel" "kept" "I", Cond.fieldLink RX5 9 "TwicebookModel" "come" "[I"]
def wsX5_thin_r2 : List Cond := [Cond.fieldLink RX5 29 "TwicebookModel" "comes" "[[I", Cond.fieldLink RX5 13 "TwicebookModel" "values" "[I", Cond.fieldLink RX5 32 "TwicebookModel" "valueRows" "[[I", Cond.fieldLink RX5 16 "TwicebookModel" "ask" "[I", Cond.fieldLink RX5 35 "TwicebookModel" "asks" "[[I", Cond.fieldLink RX5 38 "TwicebookModel" "sizes" "[I", Cond.fieldLink RX5 41 "TwicebookModel" "limits" "[I", Cond.fieldLink RX5 19 "TwicebookModel" "limit" "I", Cond.fieldLink RX5 44 "TwicebookModel" "ways" "[C", Cond.fieldLink RX5 23 "TwicebookModel" "way" "C", Cond.methodLink RX5 67 yX5_moved, Cond.instanceMethod yX5_moved, Cond.selects RX5 yX5_moved yX5_moved, Cond.code yX5_moved cX5_moved 3 none, Cond.methodLink RX5 60 yX5_copied, Cond.static yX5_copied, Cond.code yX5_copied cX5_copied 3 none, Cond.methodLink RX5 82 yX5_row, Cond.instanceMethod yX5_row, Cond.selects RX5 yX5_row yX5_row, Cond.code yX5_row cX5_row 2 (some (.array .int)), Cond.methodLink RX5 86 yX5_out, Cond.instanceMethod yX5_out, Cond.selects RX5 yX5_out yX5_out]
def wsX5_thin_r3 : List Cond := [Cond.code yX5_out cX5_out 4 none, Cond.methodLink RX5 78 yX5_place, Cond.instanceMethod yX5_place, Cond.selects RX5 yX5_place yX5_place, Cond.code yX5_place cX5_place 4 (some .int)]
def wsX5_thin : List Cond := .code yX5_thin cX5_thin 5 (some .int) :: ((wsX5_thin_r1 ++ (wsX5_thin_r2 ++ wsX5_thin_r3)) ++ wsX50)
def wsX5_walk : List Cond := .code yX5_walk cX5_walk 2 (some .int) :: ([.fieldLink RX5 74 "TwicebookModel" "isWalk" "Z", .fieldLink RX5 48 "TwicebookModel" "path" "[I", .fieldLink RX5 57 "TwicebookModel" "size" "I", .fieldLink RX5 112 "TwicebookModel" "pathSize" "I", .fieldLink RX5 115 "TwicebookModel" "next" "I", .fieldLink RX5 51 "TwicebookModel" "last" "I", .methodLink RX5 108 yX5_isOrder, .static yX5_isOrder, .initialized RX5, .code yX5_isOrder cX5_isOrder 1 (some .boolean), .methodLink RX5 94 yX5_no, .instanceMethod yX5_no, .selects RX5 yX5_no yX5_no, .code yX5_no cX5_no 3 (some .boolean), .fieldLink RX5 54 "TwicebookModel" "thrown" "I", .methodLink RX5 82 yX5_row, .instanceMethod yX5_row, .selects RX5 yX5_row yX5_row, .code yX5_row cX5_row 2 (some (.array .int)), .fieldLink RX5 9 "TwicebookModel" "come" "[I", .fieldLink RX5 16 "TwicebookModel" "ask" "[I", .methodLink RX5 60 yX5_copied, .static yX5_copied, .code yX5_copied cX5_copied 3 none] ++ wsX50)
def wsX5_step : List Cond := .code yX5_step cX5_step 1 (some .int) :: ([.fieldLink RX5 74 "TwicebookModel" "isWalk" "Z", .fieldLink RX5 115 "TwicebookModel" "next" "I", .fieldLink RX5 112 "TwicebookModel" "pathSize" "I", .fieldLink RX5 48 "TwicebookModel" "path" "[I", .fieldLink RX5 51 "TwicebookModel" "last" "I", .methodLink RX5 94 yX5_no, .instanceMethod yX5_no, .selects RX5 yX5_no yX5_no, .initialized RX5, .code yX5_no cX5_no 3 (some .boolean), .fieldLink RX5 54 "TwicebookModel" "thrown" "I"] ++ wsX50)
def wsX5_cut_r1 : List Cond := [Cond.fieldLink RX5 74 "TwicebookModel" "isWalk" "Z", Cond.fieldLink RX5 51 "TwicebookModel" "last" "I", Cond.fieldLink RX5 57 "TwicebookModel" "size" "I", Cond.methodLink RX5 94 yX5_no, Cond.instanceMethod yX5_no, Cond.selects RX5 yX5_no yX5_no, Cond.initialized RX5, Cond.code yX5_no cX5_no 3 (some .boolean), Cond.fieldLink RX5 54 "TwicebookModel" "thrown" "I", Cond.methodLink RX5 71 yX5_keeps, Cond.instanceMethod yX5_keeps, Cond.selects RX5 yX5_keeps yX5_keeps, Cond.code yX5_keeps cX5_keeps 2 none, Cond.fieldLink RX5 64 "TwicebookModel" "kept" "I", Cond.fieldLink RX5 9 "TwicebookModel" "come" "[I", Cond.fieldLink RX5 29 "TwicebookModel" "comes" "[[I", Cond.fieldLink RX5 13 "TwicebookModel" "values" "[I", Cond.fieldLink RX5 32 "TwicebookModel" "valueRows" "[[I", Cond.fieldLink RX5 16 "TwicebookModel" "ask" "[I", Cond.fieldLink RX5 35 "TwicebookModel" "asks" "[[I", Cond.fieldLink RX5 38 "TwicebookModel" "sizes" "[I", Cond.fieldLink RX5 41 "TwicebookModel" "limits" "[I", Cond.fieldLink RX5 19 "TwicebookModel" "limit" "I", Cond.fieldLink RX5 44 "TwicebookModel" "ways" "[C"]
def wsX5_cut_r2 : List Cond := [Cond.fieldLink RX5 23 "TwicebookModel" "way" "C", Cond.methodLink RX5 67 yX5_moved, Cond.instanceMethod yX5_moved, Cond.selects RX5 yX5_moved yX5_moved, Cond.code yX5_moved cX5_moved 3 none, Cond.methodLink RX5 60 yX5_copied, Cond.static yX5_copied, Cond.code yX5_copied cX5_copied 3 none, Cond.methodLink RX5 86 yX5_out, Cond.instanceMethod yX5_out, Cond.selects RX5 yX5_out yX5_out, Cond.code yX5_out cX5_out 4 none, Cond.methodLink RX5 78 yX5_place, Cond.instanceMethod yX5_place, Cond.selects RX5 yX5_place yX5_place, Cond.code yX5_place cX5_place 4 (some .int)]
def wsX5_cut : List Cond := .code yX5_cut cX5_cut 1 (some .int) :: ((wsX5_cut_r1 ++ wsX5_cut_r2) ++ wsX50)
def wsX5_staying : List Cond := .code yX5_staying cX5_staying 3 (some .int) :: ([.fieldLink RX5 57 "TwicebookModel" "size" "I", .fieldLink RX5 9 "TwicebookModel" "come" "[I", .fieldLink RX5 16 "TwicebookModel" "ask" "[I", .methodLink RX5 78 yX5_place, .instanceMethod yX5_place, .selects RX5 yX5_place yX5_place, .initialized RX5, .code yX5_place cX5_place 4 (some .int)] ++ wsX50)
def wsX5_moves : List Cond := .code yX5_moves cX5_moves 1 (some .int) :: ([.fieldLink RX5 54 "TwicebookModel" "thrown" "I", .fieldLink RX5 57 "TwicebookModel" "size" "I", .methodLink RX5 118 yX5_staying, .instanceMethod yX5_staying, .selects RX5 yX5_staying yX5_staying, .initialized RX5, .code yX5_staying cX5_staying 3 (some .int), .fieldLink RX5 9 "TwicebookModel" "come" "[I", .fieldLink RX5 16 "TwicebookModel" "ask" "[I", .methodLink RX5 78 yX5_place, .instanceMethod yX5_place, .selects RX5 yX5_place yX5_place, .code yX5_place cX5_place 4 (some .int)] ++ wsX50)
def wsX5_move : List Cond := .code yX5_move cX5_move 3 (some .int) :: ([.fieldLink RX5 57 "TwicebookModel" "size" "I", .fieldLink RX5 16 "TwicebookModel" "ask" "[I", .methodLink RX5 118 yX5_staying, .instanceMethod yX5_staying, .selects RX5 yX5_staying yX5_staying, .initialized RX5, .code yX5_staying cX5_staying 3 (some .int), .fieldLink RX5 9 "TwicebookModel" "come" "[I", .methodLink RX5 78 yX5_place, .instanceMethod yX5_place, .selects RX5 yX5_place yX5_place, .code yX5_place cX5_place 4 (some .int), .methodLink RX5 90 yX5_in, .static yX5_in, .code yX5_in cX5_in 3 (some .boolean), .methodLink RX5 94 yX5_no, .instanceMethod yX5_no, .selects RX5 yX5_no yX5_no, .code yX5_no cX5_no 3 (some .boolean), .fieldLink RX5 54 "TwicebookModel" "thrown" "I"] ++ wsX50)
def wsX5_crossings : List Cond := .code yX5_crossings cX5_crossings 4 (some .int) :: ([.fieldLink RX5 54 "TwicebookModel" "thrown" "I", .fieldLink RX5 57 "TwicebookModel" "size" "I", .fieldLink RX5 16 "TwicebookModel" "ask" "[I", .fieldLink RX5 9 "TwicebookModel" "come" "[I", .methodLink RX5 78 yX5_place, .instanceMethod yX5_place, .selects RX5 yX5_place yX5_place, .initialized RX5, .code yX5_place cX5_place 4 (some .int)] ++ wsX50)
def wsX5_undo : List Cond := .code yX5_undo cX5_undo 1 (some .int) :: ([.fieldLink RX5 64 "TwicebookModel" "kept" "I", .fieldLink RX5 29 "TwicebookModel" "comes" "[[I", .fieldLink RX5 9 "TwicebookModel" "come" "[I", .fieldLink RX5 32 "TwicebookModel" "valueRows" "[[I", .fieldLink RX5 13 "TwicebookModel" "values" "[I", .fieldLink RX5 35 "TwicebookModel" "asks" "[[I", .fieldLink RX5 16 "TwicebookModel" "ask" "[I", .fieldLink RX5 38 "TwicebookModel" "sizes" "[I", .fieldLink RX5 57 "TwicebookModel" "size" "I", .fieldLink RX5 41 "TwicebookModel" "limits" "[I", .fieldLink RX5 19 "TwicebookModel" "limit" "I", .fieldLink RX5 44 "TwicebookModel" "ways" "[C", .fieldLink RX5 23 "TwicebookModel" "way" "C", .fieldLink RX5 74 "TwicebookModel" "isWalk" "Z", .methodLink RX5 94 yX5_no, .instanceMethod yX5_no, .selects RX5 yX5_no yX5_no, .initialized RX5, .code yX5_no cX5_no 3 (some .boolean), .fieldLink RX5 54 "TwicebookModel" "thrown" "I", .methodLink RX5 60 yX5_copied, .static yX5_copied, .code yX5_copied cX5_copied 3 none] ++ wsX50)
def wsX5_isTrue : List Cond := .code yX5_isTrue cX5_isTrue 1 (some .boolean) :: ([.fieldLink RX5 54 "TwicebookModel" "thrown" "I"] ++ wsX50)
def wsX5_checksum : List Cond := .code yX5_checksum cX5_checksum 4 (some .long) :: ([.fieldLink RX5 54 "TwicebookModel" "thrown" "I", .constantLong RX5 122 (7), .fieldLink RX5 57 "TwicebookModel" "size" "I", .constantLong RX5 124 (31), .fieldLink RX5 9 "TwicebookModel" "come" "[I", .fieldLink RX5 13 "TwicebookModel" "values" "[I", .fieldLink RX5 16 "TwicebookModel" "ask" "[I", .fieldLink RX5 19 "TwicebookModel" "limit" "I", .fieldLink RX5 23 "TwicebookModel" "way" "C", .fieldLink RX5 64 "TwicebookModel" "kept" "I"] ++ wsX50)
def wsJ9_max_7cf53 : List Cond := .code yJ9_max_7cf53 cJ9_max_7cf53 2 (some .int) :: ([])
def wsJ9_min_7cf53 : List Cond := .code yJ9_min_7cf53 cJ9_min_7cf53 2 (some .int) :: ([])
def wsL_put_r1 : List Cond := [Cond.classLink RL 13 "java/lang/IllegalArgumentException", Cond.methodLink RL 7 yX4_put, Cond.instanceMethod yX4_put, Cond.selects RX4 yX4_put yX4_put, Cond.initialized RX4, Cond.code yX4_put cX4_put 3 (some .int), Cond.fieldLink RX4 10 "Twicebook" "book" "LTwicebook$Page;", Cond.methodLink RX4 37 yX4_refuseKeyOutOfRange, Cond.instanceMethod yX4_refuseKeyOutOfRange, Cond.selects RX4 yX4_refuseKeyOutOfRange yX4_refuseKeyOutOfRange, Cond.code yX4_refuseKeyOutOfRange cX4_refuseKeyOutOfRange 2 none, Cond.classLink RX4 76 "java/lang/IllegalArgumentException", Cond.initialized "java/lang/IllegalArgumentException", Cond.methodLink RX4 41 yX4_beginChange, Cond.instanceMethod yX4_beginChange, Cond.selects RX4 yX4_beginChange yX4_beginChange, Cond.code yX4_beginChange cX4_beginChange 1 none, Cond.fieldLink RX4 26 "Twicebook" "tour" "LTwicebook$Tour;", Cond.fieldLink RX4 19 "Twicebook" "past" "LTwicebook$Past;", Cond.methodLink RX4 181 yX3_end, Cond.instanceMethod yX3_end, Cond.selects RX3 yX3_end yX3_end, Cond.initialized RX3, Cond.code yX3_end cX3_end 1 none]
def wsL_put_r2 : List Cond := [Cond.fieldLink RX3 9 "Twicebook$Tour" "on" "Z", Cond.methodLink RX4 155 yX1_keep, Cond.instanceMethod yX1_keep, Cond.selects RX1 yX1_keep yX1_keep, Cond.initialized RX1, Cond.code yX1_keep cX1_keep 2 none, Cond.fieldLink RX1 18 "Twicebook$Past" "free" "I", Cond.fieldLink RX1 11 "Twicebook$Past" "pages" "[LTwicebook$Page;", Cond.fieldLink RX1 22 "Twicebook$Past" "kept" "I", Cond.methodLink RX1 29 Lib.Math.min.name, Cond.static Lib.Math.min.name, Cond.initialized "java/lang/Math", Cond.code Lib.Math.min.name Lib.Math.min.code 2 (some .int), Cond.methodLink RX1 25 yX0_become, Cond.instanceMethod yX0_become, Cond.selects RX0 yX0_become yX0_become, Cond.initialized RX0, Cond.code yX0_become cX0_become 2 none, Cond.fieldLink RX0 12 "Twicebook$Page" "coming" "LTwicebook$Row;", Cond.fieldLink RX0 18 "Twicebook$Page" "asking" "LTwicebook$Row;", Cond.fieldLink RX0 21 "Twicebook$Page" "most" "I", Cond.fieldLink RX0 25 "Twicebook$Page" "eldestBy" "C", Cond.methodLink RX0 73 yX2_become, Cond.instanceMethod yX2_become]
def wsL_put_r3 : List Cond := [Cond.selects RX2 yX2_become yX2_become, Cond.initialized RX2, Cond.code yX2_become cX2_become 3 none, Cond.fieldLink RX2 18 "Twicebook$Row" "count" "I", Cond.methodLink RX2 26 yX2_keyIn, Cond.instanceMethod yX2_keyIn, Cond.selects RX2 yX2_keyIn yX2_keyIn, Cond.code yX2_keyIn cX2_keyIn 2 (some .int), Cond.fieldLink RX2 9 "Twicebook$Row" "keys" "[I", Cond.methodLink RX2 22 yX2_holdsPlace, Cond.instanceMethod yX2_holdsPlace, Cond.selects RX2 yX2_holdsPlace yX2_holdsPlace, Cond.code yX2_holdsPlace cX2_holdsPlace 2 (some .boolean), Cond.methodLink RX2 38 yX2_valueIn, Cond.instanceMethod yX2_valueIn, Cond.selects RX2 yX2_valueIn yX2_valueIn, Cond.code yX2_valueIn cX2_valueIn 2 (some .int), Cond.fieldLink RX2 15 "Twicebook$Row" "values" "[I", Cond.methodLink RX2 34 yX2_append, Cond.instanceMethod yX2_append, Cond.selects RX2 yX2_append yX2_append, Cond.code yX2_append cX2_append 3 none, Cond.methodLink RX4 44 yX0_holds, Cond.instanceMethod yX0_holds]
def wsL_put_r4 : List Cond := [Cond.selects RX0 yX0_holds yX0_holds, Cond.code yX0_holds cX0_holds 2 (some .boolean), Cond.methodLink RX0 29 yX2_find, Cond.instanceMethod yX2_find, Cond.selects RX2 yX2_find yX2_find, Cond.code yX2_find cX2_find 3 (some .int), Cond.methodLink RX4 48 yX0_giveKey, Cond.instanceMethod yX0_giveKey, Cond.selects RX0 yX0_giveKey yX0_giveKey, Cond.code yX0_giveKey cX0_giveKey 3 none, Cond.methodLink RX0 36 yX2_give, Cond.instanceMethod yX2_give, Cond.selects RX2 yX2_give yX2_give, Cond.code yX2_give cX2_give 3 none, Cond.methodLink RX4 52 yX0_touch, Cond.instanceMethod yX0_touch, Cond.selects RX0 yX0_touch yX0_touch, Cond.code yX0_touch cX0_touch 2 none, Cond.methodLink RX0 40 yX2_putLast, Cond.instanceMethod yX2_putLast, Cond.selects RX2 yX2_putLast yX2_putLast, Cond.code yX2_putLast cX2_putLast 4 none, Cond.methodLink RX2 30 yX2_close, Cond.instanceMethod yX2_close]
def wsL_put_r5 : List Cond := [Cond.selects RX2 yX2_close yX2_close, Cond.code yX2_close cX2_close 3 none, Cond.methodLink RX4 55 yX0_letIn, Cond.instanceMethod yX0_letIn, Cond.selects RX0 yX0_letIn yX0_letIn, Cond.code yX0_letIn cX0_letIn 4 (some .int), Cond.methodLink RX0 47 yX2_count, Cond.instanceMethod yX2_count, Cond.selects RX2 yX2_count yX2_count, Cond.code yX2_count cX2_count 1 (some .int), Cond.methodLink RX0 51 yX0_dropEldest, Cond.instanceMethod yX0_dropEldest, Cond.selects RX0 yX0_dropEldest yX0_dropEldest, Cond.code yX0_dropEldest cX0_dropEldest 2 (some .int), Cond.methodLink RX0 63 yX0_row, Cond.instanceMethod yX0_row, Cond.selects RX0 yX0_row yX0_row, Cond.code yX0_row cX0_row 2 (some (.object "Twicebook$Row")), Cond.methodLink RX0 67 yX2_keyIn, Cond.methodLink RX0 70 yX0_takeOut, Cond.instanceMethod yX0_takeOut, Cond.selects RX0 yX0_takeOut yX0_takeOut, Cond.code yX0_takeOut cX0_takeOut 2 none, Cond.methodLink RX0 44 yX2_close]
def wsL_put_r6 : List Cond := [Cond.methodLink RX0 54 yX2_append]
def wsL_put : List Cond := .codeWith yL_put cL_put 5 (some .int) [(0, 10, 13, 13)] :: ((wsL_put_r1 ++ (wsL_put_r2 ++ (wsL_put_r3 ++ (wsL_put_r4 ++ (wsL_put_r5 ++ wsL_put_r6))))) ++ wsX40 ++ wsX30 ++ wsX10 ++ wsX00 ++ wsX20 ++ (vx_atS RX4 80 "java/lang/IllegalArgumentException" ["java/lang/RuntimeException", "java/lang/Exception"]).filter goodWord)
def wsL_putIfAbsent_r1 : List Cond := [Cond.classLink RL 13 "java/lang/IllegalArgumentException", Cond.methodLink RL 15 yX4_putIfAbsent, Cond.instanceMethod yX4_putIfAbsent, Cond.selects RX4 yX4_putIfAbsent yX4_putIfAbsent, Cond.initialized RX4, Cond.code yX4_putIfAbsent cX4_putIfAbsent 3 (some .boolean), Cond.fieldLink RX4 10 "Twicebook" "book" "LTwicebook$Page;", Cond.methodLink RX4 37 yX4_refuseKeyOutOfRange, Cond.instanceMethod yX4_refuseKeyOutOfRange, Cond.selects RX4 yX4_refuseKeyOutOfRange yX4_refuseKeyOutOfRange, Cond.code yX4_refuseKeyOutOfRange cX4_refuseKeyOutOfRange 2 none, Cond.classLink RX4 76 "java/lang/IllegalArgumentException", Cond.initialized "java/lang/IllegalArgumentException", Cond.methodLink RX4 41 yX4_beginChange, Cond.instanceMethod yX4_beginChange, Cond.selects RX4 yX4_beginChange yX4_beginChange, Cond.code yX4_beginChange cX4_beginChange 1 none, Cond.fieldLink RX4 26 "Twicebook" "tour" "LTwicebook$Tour;", Cond.fieldLink RX4 19 "Twicebook" "past" "LTwicebook$Past;", Cond.methodLink RX4 181 yX3_end, Cond.instanceMethod yX3_end, Cond.selects RX3 yX3_end yX3_end, Cond.initialized RX3, Cond.code yX3_end cX3_end 1 none]
def wsL_putIfAbsent_r2 : List Cond := [Cond.fieldLink RX3 9 "Twicebook$Tour" "on" "Z", Cond.methodLink RX4 155 yX1_keep, Cond.instanceMethod yX1_keep, Cond.selects RX1 yX1_keep yX1_keep, Cond.initialized RX1, Cond.code yX1_keep cX1_keep 2 none, Cond.fieldLink RX1 18 "Twicebook$Past" "free" "I", Cond.fieldLink RX1 11 "Twicebook$Past" "pages" "[LTwicebook$Page;", Cond.fieldLink RX1 22 "Twicebook$Past" "kept" "I", Cond.methodLink RX1 29 Lib.Math.min.name, Cond.static Lib.Math.min.name, Cond.initialized "java/lang/Math", Cond.code Lib.Math.min.name Lib.Math.min.code 2 (some .int), Cond.methodLink RX1 25 yX0_become, Cond.instanceMethod yX0_become, Cond.selects RX0 yX0_become yX0_become, Cond.initialized RX0, Cond.code yX0_become cX0_become 2 none, Cond.fieldLink RX0 12 "Twicebook$Page" "coming" "LTwicebook$Row;", Cond.fieldLink RX0 18 "Twicebook$Page" "asking" "LTwicebook$Row;", Cond.fieldLink RX0 21 "Twicebook$Page" "most" "I", Cond.fieldLink RX0 25 "Twicebook$Page" "eldestBy" "C", Cond.methodLink RX0 73 yX2_become, Cond.instanceMethod yX2_become]
def wsL_putIfAbsent_r3 : List Cond := [Cond.selects RX2 yX2_become yX2_become, Cond.initialized RX2, Cond.code yX2_become cX2_become 3 none, Cond.fieldLink RX2 18 "Twicebook$Row" "count" "I", Cond.methodLink RX2 26 yX2_keyIn, Cond.instanceMethod yX2_keyIn, Cond.selects RX2 yX2_keyIn yX2_keyIn, Cond.code yX2_keyIn cX2_keyIn 2 (some .int), Cond.fieldLink RX2 9 "Twicebook$Row" "keys" "[I", Cond.methodLink RX2 22 yX2_holdsPlace, Cond.instanceMethod yX2_holdsPlace, Cond.selects RX2 yX2_holdsPlace yX2_holdsPlace, Cond.code yX2_holdsPlace cX2_holdsPlace 2 (some .boolean), Cond.methodLink RX2 38 yX2_valueIn, Cond.instanceMethod yX2_valueIn, Cond.selects RX2 yX2_valueIn yX2_valueIn, Cond.code yX2_valueIn cX2_valueIn 2 (some .int), Cond.fieldLink RX2 15 "Twicebook$Row" "values" "[I", Cond.methodLink RX2 34 yX2_append, Cond.instanceMethod yX2_append, Cond.selects RX2 yX2_append yX2_append, Cond.code yX2_append cX2_append 3 none, Cond.methodLink RX4 44 yX0_holds, Cond.instanceMethod yX0_holds]
def wsL_putIfAbsent_r4 : List Cond := [Cond.selects RX0 yX0_holds yX0_holds, Cond.code yX0_holds cX0_holds 2 (some .boolean), Cond.methodLink RX0 29 yX2_find, Cond.instanceMethod yX2_find, Cond.selects RX2 yX2_find yX2_find, Cond.code yX2_find cX2_find 3 (some .int), Cond.methodLink RX4 52 yX0_touch, Cond.instanceMethod yX0_touch, Cond.selects RX0 yX0_touch yX0_touch, Cond.code yX0_touch cX0_touch 2 none, Cond.methodLink RX0 40 yX2_putLast, Cond.instanceMethod yX2_putLast, Cond.selects RX2 yX2_putLast yX2_putLast, Cond.code yX2_putLast cX2_putLast 4 none, Cond.methodLink RX2 30 yX2_close, Cond.instanceMethod yX2_close, Cond.selects RX2 yX2_close yX2_close, Cond.code yX2_close cX2_close 3 none, Cond.methodLink RX4 55 yX0_letIn, Cond.instanceMethod yX0_letIn, Cond.selects RX0 yX0_letIn yX0_letIn, Cond.code yX0_letIn cX0_letIn 4 (some .int), Cond.methodLink RX0 47 yX2_count, Cond.instanceMethod yX2_count]
def wsL_putIfAbsent_r5 : List Cond := [Cond.selects RX2 yX2_count yX2_count, Cond.code yX2_count cX2_count 1 (some .int), Cond.methodLink RX0 51 yX0_dropEldest, Cond.instanceMethod yX0_dropEldest, Cond.selects RX0 yX0_dropEldest yX0_dropEldest, Cond.code yX0_dropEldest cX0_dropEldest 2 (some .int), Cond.methodLink RX0 63 yX0_row, Cond.instanceMethod yX0_row, Cond.selects RX0 yX0_row yX0_row, Cond.code yX0_row cX0_row 2 (some (.object "Twicebook$Row")), Cond.methodLink RX0 67 yX2_keyIn, Cond.methodLink RX0 70 yX0_takeOut, Cond.instanceMethod yX0_takeOut, Cond.selects RX0 yX0_takeOut yX0_takeOut, Cond.code yX0_takeOut cX0_takeOut 2 none, Cond.methodLink RX0 44 yX2_close, Cond.methodLink RX0 54 yX2_append]
def wsL_putIfAbsent : List Cond := .codeWith yL_putIfAbsent cL_putIfAbsent 5 (some .int) [(0, 17, 20, 13)] :: ((wsL_putIfAbsent_r1 ++ (wsL_putIfAbsent_r2 ++ (wsL_putIfAbsent_r3 ++ (wsL_putIfAbsent_r4 ++ wsL_putIfAbsent_r5)))) ++ wsX40 ++ wsX30 ++ wsX10 ++ wsX00 ++ wsX20 ++ (vx_atS RX4 80 "java/lang/IllegalArgumentException" ["java/lang/RuntimeException", "java/lang/Exception"]).filter goodWord)
def wsL_get_r1 : List Cond := [Cond.classLink RL 23 "java/util/NoSuchElementException", Cond.methodLink RL 19 yX4_get, Cond.instanceMethod yX4_get, Cond.selects RX4 yX4_get yX4_get, Cond.initialized RX4, Cond.code yX4_get cX4_get 2 (some .int), Cond.fieldLink RX4 10 "Twicebook" "book" "LTwicebook$Page;", Cond.methodLink RX4 59 yX4_refuseAbsentKey, Cond.instanceMethod yX4_refuseAbsentKey, Cond.selects RX4 yX4_refuseAbsentKey yX4_refuseAbsentKey, Cond.code yX4_refuseAbsentKey cX4_refuseAbsentKey 2 none, Cond.classLink RX4 142 "java/util/NoSuchElementException", Cond.initialized "java/util/NoSuchElementException", Cond.methodLink RX4 44 yX0_holds, Cond.instanceMethod yX0_holds, Cond.selects RX0 yX0_holds yX0_holds, Cond.initialized RX0, Cond.code yX0_holds cX0_holds 2 (some .boolean), Cond.fieldLink RX0 12 "Twicebook$Page" "coming" "LTwicebook$Row;", Cond.methodLink RX0 29 yX2_find, Cond.instanceMethod yX2_find, Cond.selects RX2 yX2_find yX2_find, Cond.initialized RX2, Cond.code yX2_find cX2_find 3 (some .int)]
def wsL_get_r2 : List Cond := [Cond.fieldLink RX2 18 "Twicebook$Row" "count" "I", Cond.methodLink RX2 26 yX2_keyIn, Cond.instanceMethod yX2_keyIn, Cond.selects RX2 yX2_keyIn yX2_keyIn, Cond.code yX2_keyIn cX2_keyIn 2 (some .int), Cond.fieldLink RX2 9 "Twicebook$Row" "keys" "[I", Cond.methodLink RX2 22 yX2_holdsPlace, Cond.instanceMethod yX2_holdsPlace, Cond.selects RX2 yX2_holdsPlace yX2_holdsPlace, Cond.code yX2_holdsPlace cX2_holdsPlace 2 (some .boolean), Cond.methodLink RX4 41 yX4_beginChange, Cond.instanceMethod yX4_beginChange, Cond.selects RX4 yX4_beginChange yX4_beginChange, Cond.code yX4_beginChange cX4_beginChange 1 none, Cond.fieldLink RX4 26 "Twicebook" "tour" "LTwicebook$Tour;", Cond.fieldLink RX4 19 "Twicebook" "past" "LTwicebook$Past;", Cond.methodLink RX4 181 yX3_end, Cond.instanceMethod yX3_end, Cond.selects RX3 yX3_end yX3_end, Cond.initialized RX3, Cond.code yX3_end cX3_end 1 none, Cond.fieldLink RX3 9 "Twicebook$Tour" "on" "Z", Cond.methodLink RX4 155 yX1_keep, Cond.instanceMethod yX1_keep]
def wsL_get_r3 : List Cond := [Cond.selects RX1 yX1_keep yX1_keep, Cond.initialized RX1, Cond.code yX1_keep cX1_keep 2 none, Cond.fieldLink RX1 18 "Twicebook$Past" "free" "I", Cond.fieldLink RX1 11 "Twicebook$Past" "pages" "[LTwicebook$Page;", Cond.fieldLink RX1 22 "Twicebook$Past" "kept" "I", Cond.methodLink RX1 29 Lib.Math.min.name, Cond.static Lib.Math.min.name, Cond.initialized "java/lang/Math", Cond.code Lib.Math.min.name Lib.Math.min.code 2 (some .int), Cond.methodLink RX1 25 yX0_become, Cond.instanceMethod yX0_become, Cond.selects RX0 yX0_become yX0_become, Cond.code yX0_become cX0_become 2 none, Cond.fieldLink RX0 18 "Twicebook$Page" "asking" "LTwicebook$Row;", Cond.fieldLink RX0 21 "Twicebook$Page" "most" "I", Cond.fieldLink RX0 25 "Twicebook$Page" "eldestBy" "C", Cond.methodLink RX0 73 yX2_become, Cond.instanceMethod yX2_become, Cond.selects RX2 yX2_become yX2_become, Cond.code yX2_become cX2_become 3 none, Cond.methodLink RX2 38 yX2_valueIn, Cond.instanceMethod yX2_valueIn, Cond.selects RX2 yX2_valueIn yX2_valueIn]
def wsL_get_r4 : List Cond := [Cond.code yX2_valueIn cX2_valueIn 2 (some .int), Cond.fieldLink RX2 15 "Twicebook$Row" "values" "[I", Cond.methodLink RX2 34 yX2_append, Cond.instanceMethod yX2_append, Cond.selects RX2 yX2_append yX2_append, Cond.code yX2_append cX2_append 3 none, Cond.methodLink RX4 52 yX0_touch, Cond.instanceMethod yX0_touch, Cond.selects RX0 yX0_touch yX0_touch, Cond.code yX0_touch cX0_touch 2 none, Cond.methodLink RX0 40 yX2_putLast, Cond.instanceMethod yX2_putLast, Cond.selects RX2 yX2_putLast yX2_putLast, Cond.code yX2_putLast cX2_putLast 4 none, Cond.methodLink RX2 30 yX2_close, Cond.instanceMethod yX2_close, Cond.selects RX2 yX2_close yX2_close, Cond.code yX2_close cX2_close 3 none, Cond.methodLink RX4 62 yX0_valueOf, Cond.instanceMethod yX0_valueOf, Cond.selects RX0 yX0_valueOf yX0_valueOf, Cond.code yX0_valueOf cX0_valueOf 2 (some .int), Cond.methodLink RX0 33 yX2_valueIn]
def wsL_get : List Cond := .codeWith yL_get cL_get 4 (some .int) [(0, 9, 12, 23)] :: ((wsL_get_r1 ++ (wsL_get_r2 ++ (wsL_get_r3 ++ wsL_get_r4))) ++ wsX40 ++ wsX00 ++ wsX20 ++ wsX30 ++ wsX10 ++ (vx_atS RX4 146 "java/util/NoSuchElementException" ["java/lang/RuntimeException", "java/lang/Exception"]).filter goodWord)
def wsL_look_r1 : List Cond := [Cond.classLink RL 23 "java/util/NoSuchElementException", Cond.methodLink RL 25 yX4_look, Cond.instanceMethod yX4_look, Cond.selects RX4 yX4_look yX4_look, Cond.initialized RX4, Cond.code yX4_look cX4_look 2 (some .int), Cond.fieldLink RX4 10 "Twicebook" "book" "LTwicebook$Page;", Cond.methodLink RX4 59 yX4_refuseAbsentKey, Cond.instanceMethod yX4_refuseAbsentKey, Cond.selects RX4 yX4_refuseAbsentKey yX4_refuseAbsentKey, Cond.code yX4_refuseAbsentKey cX4_refuseAbsentKey 2 none, Cond.classLink RX4 142 "java/util/NoSuchElementException", Cond.initialized "java/util/NoSuchElementException", Cond.methodLink RX4 44 yX0_holds, Cond.instanceMethod yX0_holds, Cond.selects RX0 yX0_holds yX0_holds, Cond.initialized RX0, Cond.code yX0_holds cX0_holds 2 (some .boolean), Cond.fieldLink RX0 12 "Twicebook$Page" "coming" "LTwicebook$Row;", Cond.methodLink RX0 29 yX2_find, Cond.instanceMethod yX2_find, Cond.selects RX2 yX2_find yX2_find, Cond.initialized RX2, Cond.code yX2_find cX2_find 3 (some .int)]
def wsL_look_r2 : List Cond := [Cond.fieldLink RX2 18 "Twicebook$Row" "count" "I", Cond.methodLink RX2 26 yX2_keyIn, Cond.instanceMethod yX2_keyIn, Cond.selects RX2 yX2_keyIn yX2_keyIn, Cond.code yX2_keyIn cX2_keyIn 2 (some .int), Cond.fieldLink RX2 9 "Twicebook$Row" "keys" "[I", Cond.methodLink RX2 22 yX2_holdsPlace, Cond.instanceMethod yX2_holdsPlace, Cond.selects RX2 yX2_holdsPlace yX2_holdsPlace, Cond.code yX2_holdsPlace cX2_holdsPlace 2 (some .boolean), Cond.methodLink RX4 62 yX0_valueOf, Cond.instanceMethod yX0_valueOf, Cond.selects RX0 yX0_valueOf yX0_valueOf, Cond.code yX0_valueOf cX0_valueOf 2 (some .int), Cond.methodLink RX0 33 yX2_valueIn, Cond.instanceMethod yX2_valueIn, Cond.selects RX2 yX2_valueIn yX2_valueIn, Cond.code yX2_valueIn cX2_valueIn 2 (some .int), Cond.fieldLink RX2 15 "Twicebook$Row" "values" "[I"]
def wsL_look : List Cond := .codeWith yL_look cL_look 4 (some .int) [(0, 9, 12, 23)] :: ((wsL_look_r1 ++ wsL_look_r2) ++ wsX40 ++ wsX00 ++ wsX20 ++ (vx_atS RX4 146 "java/util/NoSuchElementException" ["java/lang/RuntimeException", "java/lang/Exception"]).filter goodWord)
def wsL_remove_r1 : List Cond := [Cond.classLink RL 23 "java/util/NoSuchElementException", Cond.methodLink RL 28 yX4_remove, Cond.instanceMethod yX4_remove, Cond.selects RX4 yX4_remove yX4_remove, Cond.initialized RX4, Cond.code yX4_remove cX4_remove 3 (some .int), Cond.fieldLink RX4 10 "Twicebook" "book" "LTwicebook$Page;", Cond.methodLink RX4 59 yX4_refuseAbsentKey, Cond.instanceMethod yX4_refuseAbsentKey, Cond.selects RX4 yX4_refuseAbsentKey yX4_refuseAbsentKey, Cond.code yX4_refuseAbsentKey cX4_refuseAbsentKey 2 none, Cond.classLink RX4 142 "java/util/NoSuchElementException", Cond.initialized "java/util/NoSuchElementException", Cond.methodLink RX4 44 yX0_holds, Cond.instanceMethod yX0_holds, Cond.selects RX0 yX0_holds yX0_holds, Cond.initialized RX0, Cond.code yX0_holds cX0_holds 2 (some .boolean), Cond.fieldLink RX0 12 "Twicebook$Page" "coming" "LTwicebook$Row;", Cond.methodLink RX0 29 yX2_find, Cond.instanceMethod yX2_find, Cond.selects RX2 yX2_find yX2_find, Cond.initialized RX2, Cond.code yX2_find cX2_find 3 (some .int)]
def wsL_remove_r2 : List Cond := [Cond.fieldLink RX2 18 "Twicebook$Row" "count" "I", Cond.methodLink RX2 26 yX2_keyIn, Cond.instanceMethod yX2_keyIn, Cond.selects RX2 yX2_keyIn yX2_keyIn, Cond.code yX2_keyIn cX2_keyIn 2 (some .int), Cond.fieldLink RX2 9 "Twicebook$Row" "keys" "[I", Cond.methodLink RX2 22 yX2_holdsPlace, Cond.instanceMethod yX2_holdsPlace, Cond.selects RX2 yX2_holdsPlace yX2_holdsPlace, Cond.code yX2_holdsPlace cX2_holdsPlace 2 (some .boolean), Cond.methodLink RX4 62 yX0_valueOf, Cond.instanceMethod yX0_valueOf, Cond.selects RX0 yX0_valueOf yX0_valueOf, Cond.code yX0_valueOf cX0_valueOf 2 (some .int), Cond.methodLink RX0 33 yX2_valueIn, Cond.instanceMethod yX2_valueIn, Cond.selects RX2 yX2_valueIn yX2_valueIn, Cond.code yX2_valueIn cX2_valueIn 2 (some .int), Cond.fieldLink RX2 15 "Twicebook$Row" "values" "[I", Cond.methodLink RX4 41 yX4_beginChange, Cond.instanceMethod yX4_beginChange, Cond.selects RX4 yX4_beginChange yX4_beginChange, Cond.code yX4_beginChange cX4_beginChange 1 none, Cond.fieldLink RX4 26 "Twicebook" "tour" "LTwicebook$Tour;"]
def wsL_remove_r3 : List Cond := [Cond.fieldLink RX4 19 "Twicebook" "past" "LTwicebook$Past;", Cond.methodLink RX4 181 yX3_end, Cond.instanceMethod yX3_end, Cond.selects RX3 yX3_end yX3_end, Cond.initialized RX3, Cond.code yX3_end cX3_end 1 none, Cond.fieldLink RX3 9 "Twicebook$Tour" "on" "Z", Cond.methodLink RX4 155 yX1_keep, Cond.instanceMethod yX1_keep, Cond.selects RX1 yX1_keep yX1_keep, Cond.initialized RX1, Cond.code yX1_keep cX1_keep 2 none, Cond.fieldLink RX1 18 "Twicebook$Past" "free" "I", Cond.fieldLink RX1 11 "Twicebook$Past" "pages" "[LTwicebook$Page;", Cond.fieldLink RX1 22 "Twicebook$Past" "kept" "I", Cond.methodLink RX1 29 Lib.Math.min.name, Cond.static Lib.Math.min.name, Cond.initialized "java/lang/Math", Cond.code Lib.Math.min.name Lib.Math.min.code 2 (some .int), Cond.methodLink RX1 25 yX0_become, Cond.instanceMethod yX0_become, Cond.selects RX0 yX0_become yX0_become, Cond.code yX0_become cX0_become 2 none, Cond.fieldLink RX0 18 "Twicebook$Page" "asking" "LTwicebook$Row;"]
def wsL_remove_r4 : List Cond := [Cond.fieldLink RX0 21 "Twicebook$Page" "most" "I", Cond.fieldLink RX0 25 "Twicebook$Page" "eldestBy" "C", Cond.methodLink RX0 73 yX2_become, Cond.instanceMethod yX2_become, Cond.selects RX2 yX2_become yX2_become, Cond.code yX2_become cX2_become 3 none, Cond.methodLink RX2 38 yX2_valueIn, Cond.methodLink RX2 34 yX2_append, Cond.instanceMethod yX2_append, Cond.selects RX2 yX2_append yX2_append, Cond.code yX2_append cX2_append 3 none, Cond.methodLink RX4 66 yX0_takeOut, Cond.instanceMethod yX0_takeOut, Cond.selects RX0 yX0_takeOut yX0_takeOut, Cond.code yX0_takeOut cX0_takeOut 2 none, Cond.methodLink RX0 44 yX2_close, Cond.instanceMethod yX2_close, Cond.selects RX2 yX2_close yX2_close, Cond.code yX2_close cX2_close 3 none]
def wsL_remove : List Cond := .codeWith yL_remove cL_remove 4 (some .int) [(0, 9, 12, 23)] :: ((wsL_remove_r1 ++ (wsL_remove_r2 ++ (wsL_remove_r3 ++ wsL_remove_r4))) ++ wsX40 ++ wsX00 ++ wsX20 ++ wsX30 ++ wsX10 ++ (vx_atS RX4 146 "java/util/NoSuchElementException" ["java/lang/RuntimeException", "java/lang/Exception"]).filter goodWord)
def wsL_limit_r1 : List Cond := [Cond.classLink RL 13 "java/lang/IllegalArgumentException", Cond.methodLink RL 31 yX4_limit, Cond.instanceMethod yX4_limit, Cond.selects RX4 yX4_limit yX4_limit, Cond.initialized RX4, Cond.code yX4_limit cX4_limit 2 (some .int), Cond.classLink RX4 76 "java/lang/IllegalArgumentException", Cond.initialized "java/lang/IllegalArgumentException", Cond.fieldLink RX4 10 "Twicebook" "book" "LTwicebook$Page;", Cond.methodLink RX4 41 yX4_beginChange, Cond.instanceMethod yX4_beginChange, Cond.selects RX4 yX4_beginChange yX4_beginChange, Cond.code yX4_beginChange cX4_beginChange 1 none, Cond.fieldLink RX4 26 "Twicebook" "tour" "LTwicebook$Tour;", Cond.fieldLink RX4 19 "Twicebook" "past" "LTwicebook$Past;", Cond.methodLink RX4 181 yX3_end, Cond.instanceMethod yX3_end, Cond.selects RX3 yX3_end yX3_end, Cond.initialized RX3, Cond.code yX3_end cX3_end 1 none, Cond.fieldLink RX3 9 "Twicebook$Tour" "on" "Z", Cond.methodLink RX4 155 yX1_keep, Cond.instanceMethod yX1_keep, Cond.selects RX1 yX1_keep yX1_keep]
def wsL_limit_r2 : List Cond := [Cond.initialized RX1, Cond.code yX1_keep cX1_keep 2 none, Cond.fieldLink RX1 18 "Twicebook$Past" "free" "I", Cond.fieldLink RX1 11 "Twicebook$Past" "pages" "[LTwicebook$Page;", Cond.fieldLink RX1 22 "Twicebook$Past" "kept" "I", Cond.methodLink RX1 29 Lib.Math.min.name, Cond.static Lib.Math.min.name, Cond.initialized "java/lang/Math", Cond.code Lib.Math.min.name Lib.Math.min.code 2 (some .int), Cond.methodLink RX1 25 yX0_become, Cond.instanceMethod yX0_become, Cond.selects RX0 yX0_become yX0_become, Cond.initialized RX0, Cond.code yX0_become cX0_become 2 none, Cond.fieldLink RX0 12 "Twicebook$Page" "coming" "LTwicebook$Row;", Cond.fieldLink RX0 18 "Twicebook$Page" "asking" "LTwicebook$Row;", Cond.fieldLink RX0 21 "Twicebook$Page" "most" "I", Cond.fieldLink RX0 25 "Twicebook$Page" "eldestBy" "C", Cond.methodLink RX0 73 yX2_become, Cond.instanceMethod yX2_become, Cond.selects RX2 yX2_become yX2_become, Cond.initialized RX2, Cond.code yX2_become cX2_become 3 none, Cond.fieldLink RX2 18 "Twicebook$Row" "count" "I"]
def wsL_limit_r3 : List Cond := [Cond.methodLink RX2 26 yX2_keyIn, Cond.instanceMethod yX2_keyIn, Cond.selects RX2 yX2_keyIn yX2_keyIn, Cond.code yX2_keyIn cX2_keyIn 2 (some .int), Cond.fieldLink RX2 9 "Twicebook$Row" "keys" "[I", Cond.methodLink RX2 22 yX2_holdsPlace, Cond.instanceMethod yX2_holdsPlace, Cond.selects RX2 yX2_holdsPlace yX2_holdsPlace, Cond.code yX2_holdsPlace cX2_holdsPlace 2 (some .boolean), Cond.methodLink RX2 38 yX2_valueIn, Cond.instanceMethod yX2_valueIn, Cond.selects RX2 yX2_valueIn yX2_valueIn, Cond.code yX2_valueIn cX2_valueIn 2 (some .int), Cond.fieldLink RX2 15 "Twicebook$Row" "values" "[I", Cond.methodLink RX2 34 yX2_append, Cond.instanceMethod yX2_append, Cond.selects RX2 yX2_append yX2_append, Cond.code yX2_append cX2_append 3 none, Cond.methodLink RX4 87 yX0_dropWhatIsOver, Cond.instanceMethod yX0_dropWhatIsOver, Cond.selects RX0 yX0_dropWhatIsOver yX0_dropWhatIsOver, Cond.code yX0_dropWhatIsOver cX0_dropWhatIsOver 3 (some .int), Cond.methodLink RX0 57 Lib.Math.max.name, Cond.static Lib.Math.max.name]
def wsL_limit_r4 : List Cond := [Cond.code Lib.Math.max.name Lib.Math.max.code 2 (some .int), Cond.methodLink RX0 47 yX2_count, Cond.instanceMethod yX2_count, Cond.selects RX2 yX2_count yX2_count, Cond.code yX2_count cX2_count 1 (some .int), Cond.methodLink RX0 51 yX0_dropEldest, Cond.instanceMethod yX0_dropEldest, Cond.selects RX0 yX0_dropEldest yX0_dropEldest, Cond.code yX0_dropEldest cX0_dropEldest 2 (some .int), Cond.methodLink RX0 63 yX0_row, Cond.instanceMethod yX0_row, Cond.selects RX0 yX0_row yX0_row, Cond.code yX0_row cX0_row 2 (some (.object "Twicebook$Row")), Cond.methodLink RX0 67 yX2_keyIn, Cond.methodLink RX0 70 yX0_takeOut, Cond.instanceMethod yX0_takeOut, Cond.selects RX0 yX0_takeOut yX0_takeOut, Cond.code yX0_takeOut cX0_takeOut 2 none, Cond.methodLink RX0 29 yX2_find, Cond.instanceMethod yX2_find, Cond.selects RX2 yX2_find yX2_find, Cond.code yX2_find cX2_find 3 (some .int), Cond.methodLink RX0 44 yX2_close, Cond.instanceMethod yX2_close]
def wsL_limit_r5 : List Cond := [Cond.selects RX2 yX2_close yX2_close, Cond.code yX2_close cX2_close 3 none]
def wsL_limit : List Cond := .codeWith yL_limit cL_limit 4 (some .int) [(0, 9, 12, 13)] :: ((wsL_limit_r1 ++ (wsL_limit_r2 ++ (wsL_limit_r3 ++ (wsL_limit_r4 ++ wsL_limit_r5)))) ++ wsX40 ++ wsX00 ++ wsX30 ++ wsX10 ++ wsX20 ++ (vx_atS RX4 80 "java/lang/IllegalArgumentException" ["java/lang/RuntimeException", "java/lang/Exception"]).filter goodWord)
def wsL_way_r1 : List Cond := [Cond.classLink RL 13 "java/lang/IllegalArgumentException", Cond.methodLink RL 34 yX4_way, Cond.instanceMethod yX4_way, Cond.selects RX4 yX4_way yX4_way, Cond.initialized RX4, Cond.code yX4_way cX4_way 3 (some .char), Cond.fieldLink RX4 10 "Twicebook" "book" "LTwicebook$Page;", Cond.methodLink RX4 90 yX4_refuseUnknownOrder, Cond.instanceMethod yX4_refuseUnknownOrder, Cond.selects RX4 yX4_refuseUnknownOrder yX4_refuseUnknownOrder, Cond.code yX4_refuseUnknownOrder cX4_refuseUnknownOrder 2 none, Cond.classLink RX4 76 "java/lang/IllegalArgumentException", Cond.initialized "java/lang/IllegalArgumentException", Cond.methodLink RX4 41 yX4_beginChange, Cond.instanceMethod yX4_beginChange, Cond.selects RX4 yX4_beginChange yX4_beginChange, Cond.code yX4_beginChange cX4_beginChange 1 none, Cond.fieldLink RX4 26 "Twicebook" "tour" "LTwicebook$Tour;", Cond.fieldLink RX4 19 "Twicebook" "past" "LTwicebook$Past;", Cond.methodLink RX4 181 yX3_end, Cond.instanceMethod yX3_end, Cond.selects RX3 yX3_end yX3_end, Cond.initialized RX3, Cond.code yX3_end cX3_end 1 none]
def wsL_way_r2 : List Cond := [Cond.fieldLink RX3 9 "Twicebook$Tour" "on" "Z", Cond.methodLink RX4 155 yX1_keep, Cond.instanceMethod yX1_keep, Cond.selects RX1 yX1_keep yX1_keep, Cond.initialized RX1, Cond.code yX1_keep cX1_keep 2 none, Cond.fieldLink RX1 18 "Twicebook$Past" "free" "I", Cond.fieldLink RX1 11 "Twicebook$Past" "pages" "[LTwicebook$Page;", Cond.fieldLink RX1 22 "Twicebook$Past" "kept" "I", Cond.methodLink RX1 29 Lib.Math.min.name, Cond.static Lib.Math.min.name, Cond.initialized "java/lang/Math", Cond.code Lib.Math.min.name Lib.Math.min.code 2 (some .int), Cond.methodLink RX1 25 yX0_become, Cond.instanceMethod yX0_become, Cond.selects RX0 yX0_become yX0_become, Cond.initialized RX0, Cond.code yX0_become cX0_become 2 none, Cond.fieldLink RX0 12 "Twicebook$Page" "coming" "LTwicebook$Row;", Cond.fieldLink RX0 18 "Twicebook$Page" "asking" "LTwicebook$Row;", Cond.fieldLink RX0 21 "Twicebook$Page" "most" "I", Cond.fieldLink RX0 25 "Twicebook$Page" "eldestBy" "C", Cond.methodLink RX0 73 yX2_become, Cond.instanceMethod yX2_become]
def wsL_way_r3 : List Cond := [Cond.selects RX2 yX2_become yX2_become, Cond.initialized RX2, Cond.code yX2_become cX2_become 3 none, Cond.fieldLink RX2 18 "Twicebook$Row" "count" "I", Cond.methodLink RX2 26 yX2_keyIn, Cond.instanceMethod yX2_keyIn, Cond.selects RX2 yX2_keyIn yX2_keyIn, Cond.code yX2_keyIn cX2_keyIn 2 (some .int), Cond.fieldLink RX2 9 "Twicebook$Row" "keys" "[I", Cond.methodLink RX2 22 yX2_holdsPlace, Cond.instanceMethod yX2_holdsPlace, Cond.selects RX2 yX2_holdsPlace yX2_holdsPlace, Cond.code yX2_holdsPlace cX2_holdsPlace 2 (some .boolean), Cond.methodLink RX2 38 yX2_valueIn, Cond.instanceMethod yX2_valueIn, Cond.selects RX2 yX2_valueIn yX2_valueIn, Cond.code yX2_valueIn cX2_valueIn 2 (some .int), Cond.fieldLink RX2 15 "Twicebook$Row" "values" "[I", Cond.methodLink RX2 34 yX2_append, Cond.instanceMethod yX2_append, Cond.selects RX2 yX2_append yX2_append, Cond.code yX2_append cX2_append 3 none]
def wsL_way : List Cond := .codeWith yL_way cL_way 4 (some .int) [(0, 9, 12, 13)] :: ((wsL_way_r1 ++ (wsL_way_r2 ++ wsL_way_r3)) ++ wsX40 ++ wsX00 ++ wsX30 ++ wsX10 ++ wsX20 ++ (vx_atS RX4 80 "java/lang/IllegalArgumentException" ["java/lang/RuntimeException", "java/lang/Exception"]).filter goodWord)
def wsL_keyAt_r1 : List Cond := [Cond.classLink RL 13 "java/lang/IllegalArgumentException", Cond.classLink RL 42 "java/lang/IndexOutOfBoundsException", Cond.methodLink RL 38 yX4_keyAt, Cond.instanceMethod yX4_keyAt, Cond.selects RX4 yX4_keyAt yX4_keyAt, Cond.initialized RX4, Cond.code yX4_keyAt cX4_keyAt 3 (some .int), Cond.fieldLink RX4 10 "Twicebook" "book" "LTwicebook$Page;", Cond.methodLink RX4 90 yX4_refuseUnknownOrder, Cond.instanceMethod yX4_refuseUnknownOrder, Cond.selects RX4 yX4_refuseUnknownOrder yX4_refuseUnknownOrder, Cond.code yX4_refuseUnknownOrder cX4_refuseUnknownOrder 2 none, Cond.classLink RX4 76 "java/lang/IllegalArgumentException", Cond.initialized "java/lang/IllegalArgumentException", Cond.methodLink RX4 98 yX4_refuseUnknownPlace, Cond.instanceMethod yX4_refuseUnknownPlace, Cond.selects RX4 yX4_refuseUnknownPlace yX4_refuseUnknownPlace, Cond.code yX4_refuseUnknownPlace cX4_refuseUnknownPlace 2 none, Cond.classLink RX4 165 "java/lang/IndexOutOfBoundsException", Cond.initialized "java/lang/IndexOutOfBoundsException", Cond.methodLink RX4 139 yX2_holdsPlace, Cond.instanceMethod yX2_holdsPlace, Cond.selects RX2 yX2_holdsPlace yX2_holdsPlace, Cond.initialized RX2]
def wsL_keyAt_r2 : List Cond := [Cond.code yX2_holdsPlace cX2_holdsPlace 2 (some .boolean), Cond.fieldLink RX2 18 "Twicebook$Row" "count" "I", Cond.fieldLink RX2 9 "Twicebook$Row" "keys" "[I", Cond.methodLink RX4 101 yX0_row, Cond.instanceMethod yX0_row, Cond.selects RX0 yX0_row yX0_row, Cond.initialized RX0, Cond.code yX0_row cX0_row 2 (some (.object "Twicebook$Row")), Cond.fieldLink RX0 18 "Twicebook$Page" "asking" "LTwicebook$Row;", Cond.fieldLink RX0 12 "Twicebook$Page" "coming" "LTwicebook$Row;", Cond.methodLink RX4 105 yX2_keyIn, Cond.instanceMethod yX2_keyIn, Cond.selects RX2 yX2_keyIn yX2_keyIn, Cond.code yX2_keyIn cX2_keyIn 2 (some .int), Cond.methodLink RX2 22 yX2_holdsPlace]
def wsL_keyAt : List Cond := .codeWith yL_keyAt cL_keyAt 5 (some .int) [(0, 10, 13, 13), (0, 10, 17, 42)] :: ((wsL_keyAt_r1 ++ wsL_keyAt_r2) ++ wsX40 ++ wsX00 ++ wsX20 ++ (vx_atS RX4 80 "java/lang/IllegalArgumentException" ["java/lang/RuntimeException", "java/lang/Exception"]).filter goodWord ++ (vx_atS RX4 169 "java/lang/IndexOutOfBoundsException" ["java/lang/RuntimeException", "java/lang/Exception"]).filter goodWord)
def wsL_placeOf_r1 : List Cond := [Cond.classLink RL 13 "java/lang/IllegalArgumentException", Cond.classLink RL 23 "java/util/NoSuchElementException", Cond.methodLink RL 44 yX4_placeOf, Cond.instanceMethod yX4_placeOf, Cond.selects RX4 yX4_placeOf yX4_placeOf, Cond.initialized RX4, Cond.code yX4_placeOf cX4_placeOf 3 (some .int), Cond.fieldLink RX4 10 "Twicebook" "book" "LTwicebook$Page;", Cond.methodLink RX4 90 yX4_refuseUnknownOrder, Cond.instanceMethod yX4_refuseUnknownOrder, Cond.selects RX4 yX4_refuseUnknownOrder yX4_refuseUnknownOrder, Cond.code yX4_refuseUnknownOrder cX4_refuseUnknownOrder 2 none, Cond.classLink RX4 76 "java/lang/IllegalArgumentException", Cond.initialized "java/lang/IllegalArgumentException", Cond.methodLink RX4 59 yX4_refuseAbsentKey, Cond.instanceMethod yX4_refuseAbsentKey, Cond.selects RX4 yX4_refuseAbsentKey yX4_refuseAbsentKey, Cond.code yX4_refuseAbsentKey cX4_refuseAbsentKey 2 none, Cond.classLink RX4 142 "java/util/NoSuchElementException", Cond.initialized "java/util/NoSuchElementException", Cond.methodLink RX4 44 yX0_holds, Cond.instanceMethod yX0_holds, Cond.selects RX0 yX0_holds yX0_holds, Cond.initialized RX0]
def wsL_placeOf_r2 : List Cond := [Cond.code yX0_holds cX0_holds 2 (some .boolean), Cond.fieldLink RX0 12 "Twicebook$Page" "coming" "LTwicebook$Row;", Cond.methodLink RX0 29 yX2_find, Cond.instanceMethod yX2_find, Cond.selects RX2 yX2_find yX2_find, Cond.initialized RX2, Cond.code yX2_find cX2_find 3 (some .int), Cond.fieldLink RX2 18 "Twicebook$Row" "count" "I", Cond.methodLink RX2 26 yX2_keyIn, Cond.instanceMethod yX2_keyIn, Cond.selects RX2 yX2_keyIn yX2_keyIn, Cond.code yX2_keyIn cX2_keyIn 2 (some .int), Cond.fieldLink RX2 9 "Twicebook$Row" "keys" "[I", Cond.methodLink RX2 22 yX2_holdsPlace, Cond.instanceMethod yX2_holdsPlace, Cond.selects RX2 yX2_holdsPlace yX2_holdsPlace, Cond.code yX2_holdsPlace cX2_holdsPlace 2 (some .boolean), Cond.methodLink RX4 101 yX0_row, Cond.instanceMethod yX0_row, Cond.selects RX0 yX0_row yX0_row, Cond.code yX0_row cX0_row 2 (some (.object "Twicebook$Row")), Cond.fieldLink RX0 18 "Twicebook$Page" "asking" "LTwicebook$Row;", Cond.methodLink RX4 108 yX2_find]
def wsL_placeOf : List Cond := .codeWith yL_placeOf cL_placeOf 5 (some .int) [(0, 10, 13, 13), (0, 10, 17, 23)] :: ((wsL_placeOf_r1 ++ wsL_placeOf_r2) ++ wsX40 ++ wsX00 ++ wsX20 ++ (vx_atS RX4 80 "java/lang/IllegalArgumentException" ["java/lang/RuntimeException", "java/lang/Exception"]).filter goodWord ++ (vx_atS RX4 146 "java/util/NoSuchElementException" ["java/lang/RuntimeException", "java/lang/Exception"]).filter goodWord)
def wsL_setAt_r1 : List Cond := [Cond.classLink RL 13 "java/lang/IllegalArgumentException", Cond.classLink RL 42 "java/lang/IndexOutOfBoundsException", Cond.methodLink RL 47 yX4_setAt, Cond.instanceMethod yX4_setAt, Cond.selects RX4 yX4_setAt yX4_setAt, Cond.initialized RX4, Cond.code yX4_setAt cX4_setAt 6 (some .int), Cond.fieldLink RX4 10 "Twicebook" "book" "LTwicebook$Page;", Cond.methodLink RX4 90 yX4_refuseUnknownOrder, Cond.instanceMethod yX4_refuseUnknownOrder, Cond.selects RX4 yX4_refuseUnknownOrder yX4_refuseUnknownOrder, Cond.code yX4_refuseUnknownOrder cX4_refuseUnknownOrder 2 none, Cond.classLink RX4 76 "java/lang/IllegalArgumentException", Cond.initialized "java/lang/IllegalArgumentException", Cond.methodLink RX4 98 yX4_refuseUnknownPlace, Cond.instanceMethod yX4_refuseUnknownPlace, Cond.selects RX4 yX4_refuseUnknownPlace yX4_refuseUnknownPlace, Cond.code yX4_refuseUnknownPlace cX4_refuseUnknownPlace 2 none, Cond.classLink RX4 165 "java/lang/IndexOutOfBoundsException", Cond.initialized "java/lang/IndexOutOfBoundsException", Cond.methodLink RX4 139 yX2_holdsPlace, Cond.instanceMethod yX2_holdsPlace, Cond.selects RX2 yX2_holdsPlace yX2_holdsPlace, Cond.initialized RX2]
def wsL_setAt_r2 : List Cond := [Cond.code yX2_holdsPlace cX2_holdsPlace 2 (some .boolean), Cond.fieldLink RX2 18 "Twicebook$Row" "count" "I", Cond.fieldLink RX2 9 "Twicebook$Row" "keys" "[I", Cond.methodLink RX4 101 yX0_row, Cond.instanceMethod yX0_row, Cond.selects RX0 yX0_row yX0_row, Cond.initialized RX0, Cond.code yX0_row cX0_row 2 (some (.object "Twicebook$Row")), Cond.fieldLink RX0 18 "Twicebook$Page" "asking" "LTwicebook$Row;", Cond.fieldLink RX0 12 "Twicebook$Page" "coming" "LTwicebook$Row;", Cond.methodLink RX4 111 yX2_valueIn, Cond.instanceMethod yX2_valueIn, Cond.selects RX2 yX2_valueIn yX2_valueIn, Cond.code yX2_valueIn cX2_valueIn 2 (some .int), Cond.fieldLink RX2 15 "Twicebook$Row" "values" "[I", Cond.methodLink RX2 22 yX2_holdsPlace, Cond.methodLink RX4 41 yX4_beginChange, Cond.instanceMethod yX4_beginChange, Cond.selects RX4 yX4_beginChange yX4_beginChange, Cond.code yX4_beginChange cX4_beginChange 1 none, Cond.fieldLink RX4 26 "Twicebook" "tour" "LTwicebook$Tour;", Cond.fieldLink RX4 19 "Twicebook" "past" "LTwicebook$Past;", Cond.methodLink RX4 181 yX3_end, Cond.instanceMethod yX3_end]
def wsL_setAt_r3 : List Cond := [Cond.selects RX3 yX3_end yX3_end, Cond.initialized RX3, Cond.code yX3_end cX3_end 1 none, Cond.fieldLink RX3 9 "Twicebook$Tour" "on" "Z", Cond.methodLink RX4 155 yX1_keep, Cond.instanceMethod yX1_keep, Cond.selects RX1 yX1_keep yX1_keep, Cond.initialized RX1, Cond.code yX1_keep cX1_keep 2 none, Cond.fieldLink RX1 18 "Twicebook$Past" "free" "I", Cond.fieldLink RX1 11 "Twicebook$Past" "pages" "[LTwicebook$Page;", Cond.fieldLink RX1 22 "Twicebook$Past" "kept" "I", Cond.methodLink RX1 29 Lib.Math.min.name, Cond.static Lib.Math.min.name, Cond.initialized "java/lang/Math", Cond.code Lib.Math.min.name Lib.Math.min.code 2 (some .int), Cond.methodLink RX1 25 yX0_become, Cond.instanceMethod yX0_become, Cond.selects RX0 yX0_become yX0_become, Cond.code yX0_become cX0_become 2 none, Cond.fieldLink RX0 21 "Twicebook$Page" "most" "I", Cond.fieldLink RX0 25 "Twicebook$Page" "eldestBy" "C", Cond.methodLink RX0 73 yX2_become, Cond.instanceMethod yX2_become]
def wsL_setAt_r4 : List Cond := [Cond.selects RX2 yX2_become yX2_become, Cond.code yX2_become cX2_become 3 none, Cond.methodLink RX2 26 yX2_keyIn, Cond.instanceMethod yX2_keyIn, Cond.selects RX2 yX2_keyIn yX2_keyIn, Cond.code yX2_keyIn cX2_keyIn 2 (some .int), Cond.methodLink RX2 38 yX2_valueIn, Cond.methodLink RX2 34 yX2_append, Cond.instanceMethod yX2_append, Cond.selects RX2 yX2_append yX2_append, Cond.code yX2_append cX2_append 3 none, Cond.methodLink RX4 105 yX2_keyIn, Cond.methodLink RX4 48 yX0_giveKey, Cond.instanceMethod yX0_giveKey, Cond.selects RX0 yX0_giveKey yX0_giveKey, Cond.code yX0_giveKey cX0_giveKey 3 none, Cond.methodLink RX0 29 yX2_find, Cond.instanceMethod yX2_find, Cond.selects RX2 yX2_find yX2_find, Cond.code yX2_find cX2_find 3 (some .int), Cond.methodLink RX0 36 yX2_give, Cond.instanceMethod yX2_give, Cond.selects RX2 yX2_give yX2_give, Cond.code yX2_give cX2_give 3 none]
def wsL_setAt : List Cond := .codeWith yL_setAt cL_setAt 6 (some .int) [(0, 12, 15, 13), (0, 12, 19, 42)] :: ((wsL_setAt_r1 ++ (wsL_setAt_r2 ++ (wsL_setAt_r3 ++ wsL_setAt_r4))) ++ wsX40 ++ wsX00 ++ wsX20 ++ wsX30 ++ wsX10 ++ (vx_atS RX4 80 "java/lang/IllegalArgumentException" ["java/lang/RuntimeException", "java/lang/Exception"]).filter goodWord ++ (vx_atS RX4 169 "java/lang/IndexOutOfBoundsException" ["java/lang/RuntimeException", "java/lang/Exception"]).filter goodWord)
def wsL_removeAt_r1 : List Cond := [Cond.classLink RL 13 "java/lang/IllegalArgumentException", Cond.classLink RL 42 "java/lang/IndexOutOfBoundsException", Cond.methodLink RL 51 yX4_removeAt, Cond.instanceMethod yX4_removeAt, Cond.selects RX4 yX4_removeAt yX4_removeAt, Cond.initialized RX4, Cond.code yX4_removeAt cX4_removeAt 4 (some .int), Cond.fieldLink RX4 10 "Twicebook" "book" "LTwicebook$Page;", Cond.methodLink RX4 90 yX4_refuseUnknownOrder, Cond.instanceMethod yX4_refuseUnknownOrder, Cond.selects RX4 yX4_refuseUnknownOrder yX4_refuseUnknownOrder, Cond.code yX4_refuseUnknownOrder cX4_refuseUnknownOrder 2 none, Cond.classLink RX4 76 "java/lang/IllegalArgumentException", Cond.initialized "java/lang/IllegalArgumentException", Cond.methodLink RX4 98 yX4_refuseUnknownPlace, Cond.instanceMethod yX4_refuseUnknownPlace, Cond.selects RX4 yX4_refuseUnknownPlace yX4_refuseUnknownPlace, Cond.code yX4_refuseUnknownPlace cX4_refuseUnknownPlace 2 none, Cond.classLink RX4 165 "java/lang/IndexOutOfBoundsException", Cond.initialized "java/lang/IndexOutOfBoundsException", Cond.methodLink RX4 139 yX2_holdsPlace, Cond.instanceMethod yX2_holdsPlace, Cond.selects RX2 yX2_holdsPlace yX2_holdsPlace, Cond.initialized RX2]
def wsL_removeAt_r2 : List Cond := [Cond.code yX2_holdsPlace cX2_holdsPlace 2 (some .boolean), Cond.fieldLink RX2 18 "Twicebook$Row" "count" "I", Cond.fieldLink RX2 9 "Twicebook$Row" "keys" "[I", Cond.methodLink RX4 101 yX0_row, Cond.instanceMethod yX0_row, Cond.selects RX0 yX0_row yX0_row, Cond.initialized RX0, Cond.code yX0_row cX0_row 2 (some (.object "Twicebook$Row")), Cond.fieldLink RX0 18 "Twicebook$Page" "asking" "LTwicebook$Row;", Cond.fieldLink RX0 12 "Twicebook$Page" "coming" "LTwicebook$Row;", Cond.methodLink RX4 105 yX2_keyIn, Cond.instanceMethod yX2_keyIn, Cond.selects RX2 yX2_keyIn yX2_keyIn, Cond.code yX2_keyIn cX2_keyIn 2 (some .int), Cond.methodLink RX2 22 yX2_holdsPlace, Cond.methodLink RX4 41 yX4_beginChange, Cond.instanceMethod yX4_beginChange, Cond.selects RX4 yX4_beginChange yX4_beginChange, Cond.code yX4_beginChange cX4_beginChange 1 none, Cond.fieldLink RX4 26 "Twicebook" "tour" "LTwicebook$Tour;", Cond.fieldLink RX4 19 "Twicebook" "past" "LTwicebook$Past;", Cond.methodLink RX4 181 yX3_end, Cond.instanceMethod yX3_end, Cond.selects RX3 yX3_end yX3_end]
def wsL_removeAt_r3 : List Cond := [Cond.initialized RX3, Cond.code yX3_end cX3_end 1 none, Cond.fieldLink RX3 9 "Twicebook$Tour" "on" "Z", Cond.methodLink RX4 155 yX1_keep, Cond.instanceMethod yX1_keep, Cond.selects RX1 yX1_keep yX1_keep, Cond.initialized RX1, Cond.code yX1_keep cX1_keep 2 none, Cond.fieldLink RX1 18 "Twicebook$Past" "free" "I", Cond.fieldLink RX1 11 "Twicebook$Past" "pages" "[LTwicebook$Page;", Cond.fieldLink RX1 22 "Twicebook$Past" "kept" "I", Cond.methodLink RX1 29 Lib.Math.min.name, Cond.static Lib.Math.min.name, Cond.initialized "java/lang/Math", Cond.code Lib.Math.min.name Lib.Math.min.code 2 (some .int), Cond.methodLink RX1 25 yX0_become, Cond.instanceMethod yX0_become, Cond.selects RX0 yX0_become yX0_become, Cond.code yX0_become cX0_become 2 none, Cond.fieldLink RX0 21 "Twicebook$Page" "most" "I", Cond.fieldLink RX0 25 "Twicebook$Page" "eldestBy" "C", Cond.methodLink RX0 73 yX2_become, Cond.instanceMethod yX2_become, Cond.selects RX2 yX2_become yX2_become]
def wsL_removeAt_r4 : List Cond := [Cond.code yX2_become cX2_become 3 none, Cond.methodLink RX2 26 yX2_keyIn, Cond.methodLink RX2 38 yX2_valueIn, Cond.instanceMethod yX2_valueIn, Cond.selects RX2 yX2_valueIn yX2_valueIn, Cond.code yX2_valueIn cX2_valueIn 2 (some .int), Cond.fieldLink RX2 15 "Twicebook$Row" "values" "[I", Cond.methodLink RX2 34 yX2_append, Cond.instanceMethod yX2_append, Cond.selects RX2 yX2_append yX2_append, Cond.code yX2_append cX2_append 3 none, Cond.methodLink RX4 66 yX0_takeOut, Cond.instanceMethod yX0_takeOut, Cond.selects RX0 yX0_takeOut yX0_takeOut, Cond.code yX0_takeOut cX0_takeOut 2 none, Cond.methodLink RX0 29 yX2_find, Cond.instanceMethod yX2_find, Cond.selects RX2 yX2_find yX2_find, Cond.code yX2_find cX2_find 3 (some .int), Cond.methodLink RX0 44 yX2_close, Cond.instanceMethod yX2_close, Cond.selects RX2 yX2_close yX2_close, Cond.code yX2_close cX2_close 3 none]
def wsL_removeAt : List Cond := .codeWith yL_removeAt cL_removeAt 5 (some .int) [(0, 10, 13, 13), (0, 10, 17, 42)] :: ((wsL_removeAt_r1 ++ (wsL_removeAt_r2 ++ (wsL_removeAt_r3 ++ wsL_removeAt_r4))) ++ wsX40 ++ wsX00 ++ wsX20 ++ wsX30 ++ wsX10 ++ (vx_atS RX4 80 "java/lang/IllegalArgumentException" ["java/lang/RuntimeException", "java/lang/Exception"]).filter goodWord ++ (vx_atS RX4 169 "java/lang/IndexOutOfBoundsException" ["java/lang/RuntimeException", "java/lang/Exception"]).filter goodWord)
def wsL_thin_r1 : List Cond := [Cond.classLink RL 13 "java/lang/IllegalArgumentException", Cond.methodLink RL 54 yX4_thin, Cond.instanceMethod yX4_thin, Cond.selects RX4 yX4_thin yX4_thin, Cond.initialized RX4, Cond.code yX4_thin cX4_thin 3 (some .int), Cond.classLink RX4 76 "java/lang/IllegalArgumentException", Cond.initialized "java/lang/IllegalArgumentException", Cond.fieldLink RX4 10 "Twicebook" "book" "LTwicebook$Page;", Cond.methodLink RX4 90 yX4_refuseUnknownOrder, Cond.instanceMethod yX4_refuseUnknownOrder, Cond.selects RX4 yX4_refuseUnknownOrder yX4_refuseUnknownOrder, Cond.code yX4_refuseUnknownOrder cX4_refuseUnknownOrder 2 none, Cond.methodLink RX4 72 yX2_count, Cond.instanceMethod yX2_count, Cond.selects RX2 yX2_count yX2_count, Cond.initialized RX2, Cond.code yX2_count cX2_count 1 (some .int), Cond.fieldLink RX2 18 "Twicebook$Row" "count" "I", Cond.methodLink RX4 41 yX4_beginChange, Cond.instanceMethod yX4_beginChange, Cond.selects RX4 yX4_beginChange yX4_beginChange, Cond.code yX4_beginChange cX4_beginChange 1 none, Cond.fieldLink RX4 26 "Twicebook" "tour" "LTwicebook$Tour;"]
def wsL_thin_r2 : List Cond := [Cond.fieldLink RX4 19 "Twicebook" "past" "LTwicebook$Past;", Cond.methodLink RX4 181 yX3_end, Cond.instanceMethod yX3_end, Cond.selects RX3 yX3_end yX3_end, Cond.initialized RX3, Cond.code yX3_end cX3_end 1 none, Cond.fieldLink RX3 9 "Twicebook$Tour" "on" "Z", Cond.methodLink RX4 155 yX1_keep, Cond.instanceMethod yX1_keep, Cond.selects RX1 yX1_keep yX1_keep, Cond.initialized RX1, Cond.code yX1_keep cX1_keep 2 none, Cond.fieldLink RX1 18 "Twicebook$Past" "free" "I", Cond.fieldLink RX1 11 "Twicebook$Past" "pages" "[LTwicebook$Page;", Cond.fieldLink RX1 22 "Twicebook$Past" "kept" "I", Cond.methodLink RX1 29 Lib.Math.min.name, Cond.static Lib.Math.min.name, Cond.initialized "java/lang/Math", Cond.code Lib.Math.min.name Lib.Math.min.code 2 (some .int), Cond.methodLink RX1 25 yX0_become, Cond.instanceMethod yX0_become, Cond.selects RX0 yX0_become yX0_become, Cond.initialized RX0, Cond.code yX0_become cX0_become 2 none]
def wsL_thin_r3 : List Cond := [Cond.fieldLink RX0 12 "Twicebook$Page" "coming" "LTwicebook$Row;", Cond.fieldLink RX0 18 "Twicebook$Page" "asking" "LTwicebook$Row;", Cond.fieldLink RX0 21 "Twicebook$Page" "most" "I", Cond.fieldLink RX0 25 "Twicebook$Page" "eldestBy" "C", Cond.methodLink RX0 73 yX2_become, Cond.instanceMethod yX2_become, Cond.selects RX2 yX2_become yX2_become, Cond.code yX2_become cX2_become 3 none, Cond.methodLink RX2 26 yX2_keyIn, Cond.instanceMethod yX2_keyIn, Cond.selects RX2 yX2_keyIn yX2_keyIn, Cond.code yX2_keyIn cX2_keyIn 2 (some .int), Cond.fieldLink RX2 9 "Twicebook$Row" "keys" "[I", Cond.methodLink RX2 22 yX2_holdsPlace, Cond.instanceMethod yX2_holdsPlace, Cond.selects RX2 yX2_holdsPlace yX2_holdsPlace, Cond.code yX2_holdsPlace cX2_holdsPlace 2 (some .boolean), Cond.methodLink RX2 38 yX2_valueIn, Cond.instanceMethod yX2_valueIn, Cond.selects RX2 yX2_valueIn yX2_valueIn, Cond.code yX2_valueIn cX2_valueIn 2 (some .int), Cond.fieldLink RX2 15 "Twicebook$Row" "values" "[I", Cond.methodLink RX2 34 yX2_append, Cond.instanceMethod yX2_append]
def wsL_thin_r4 : List Cond := [Cond.selects RX2 yX2_append yX2_append, Cond.code yX2_append cX2_append 3 none, Cond.methodLink RX4 116 yX0_takeOutEach, Cond.instanceMethod yX0_takeOutEach, Cond.selects RX0 yX0_takeOutEach yX0_takeOutEach, Cond.code yX0_takeOutEach cX0_takeOutEach 5 (some .int), Cond.methodLink RX0 47 yX2_count, Cond.methodLink RX0 63 yX0_row, Cond.instanceMethod yX0_row, Cond.selects RX0 yX0_row yX0_row, Cond.code yX0_row cX0_row 2 (some (.object "Twicebook$Row")), Cond.methodLink RX0 67 yX2_keyIn, Cond.methodLink RX0 70 yX0_takeOut, Cond.instanceMethod yX0_takeOut, Cond.selects RX0 yX0_takeOut yX0_takeOut, Cond.code yX0_takeOut cX0_takeOut 2 none, Cond.methodLink RX0 29 yX2_find, Cond.instanceMethod yX2_find, Cond.selects RX2 yX2_find yX2_find, Cond.code yX2_find cX2_find 3 (some .int), Cond.methodLink RX0 44 yX2_close, Cond.instanceMethod yX2_close, Cond.selects RX2 yX2_close yX2_close, Cond.code yX2_close cX2_close 3 none]
def wsL_thin : List Cond := .codeWith yL_thin cL_thin 5 (some .int) [(0, 10, 13, 13)] :: ((wsL_thin_r1 ++ (wsL_thin_r2 ++ (wsL_thin_r3 ++ wsL_thin_r4))) ++ wsX40 ++ wsX00 ++ wsX20 ++ wsX30 ++ wsX10 ++ (vx_atS RX4 80 "java/lang/IllegalArgumentException" ["java/lang/RuntimeException", "java/lang/Exception"]).filter goodWord)
def wsL_walk_r1 : List Cond := [Cond.classLink RL 13 "java/lang/IllegalArgumentException", Cond.methodLink RL 57 yX4_walk, Cond.instanceMethod yX4_walk, Cond.selects RX4 yX4_walk yX4_walk, Cond.initialized RX4, Cond.code yX4_walk cX4_walk 2 (some .int), Cond.fieldLink RX4 26 "Twicebook" "tour" "LTwicebook$Tour;", Cond.fieldLink RX4 10 "Twicebook" "book" "LTwicebook$Page;", Cond.methodLink RX4 90 yX4_refuseUnknownOrder, Cond.instanceMethod yX4_refuseUnknownOrder, Cond.selects RX4 yX4_refuseUnknownOrder yX4_refuseUnknownOrder, Cond.code yX4_refuseUnknownOrder cX4_refuseUnknownOrder 2 none, Cond.classLink RX4 76 "java/lang/IllegalArgumentException", Cond.initialized "java/lang/IllegalArgumentException", Cond.methodLink RX4 120 yX3_begin, Cond.instanceMethod yX3_begin, Cond.selects RX3 yX3_begin yX3_begin, Cond.initialized RX3, Cond.code yX3_begin cX3_begin 2 none, Cond.fieldLink RX3 9 "Twicebook$Tour" "on" "Z", Cond.fieldLink RX3 15 "Twicebook$Tour" "order" "C", Cond.fieldLink RX3 19 "Twicebook$Tour" "nextPlace" "I", Cond.fieldLink RX3 23 "Twicebook$Tour" "mayCut" "Z", Cond.methodLink RX4 72 yX2_count]
def wsL_walk_r2 : List Cond := [Cond.instanceMethod yX2_count, Cond.selects RX2 yX2_count yX2_count, Cond.initialized RX2, Cond.code yX2_count cX2_count 1 (some .int), Cond.fieldLink RX2 18 "Twicebook$Row" "count" "I"]
def wsL_walk : List Cond := .codeWith yL_walk cL_walk 4 (some .int) [(0, 9, 12, 13)] :: ((wsL_walk_r1 ++ wsL_walk_r2) ++ wsX40 ++ wsX00 ++ wsX30 ++ wsX20 ++ (vx_atS RX4 80 "java/lang/IllegalArgumentException" ["java/lang/RuntimeException", "java/lang/Exception"]).filter goodWord)
def wsL_step_r1 : List Cond := [Cond.classLink RL 65 "java/lang/IllegalStateException", Cond.classLink RL 23 "java/util/NoSuchElementException", Cond.methodLink RL 61 yX4_step, Cond.instanceMethod yX4_step, Cond.selects RX4 yX4_step yX4_step, Cond.initialized RX4, Cond.code yX4_step cX4_step 2 (some .int), Cond.classLink RX4 127 "java/lang/IllegalStateException", Cond.initialized "java/lang/IllegalStateException", Cond.classLink RX4 142 "java/util/NoSuchElementException", Cond.initialized "java/util/NoSuchElementException", Cond.fieldLink RX4 26 "Twicebook" "tour" "LTwicebook$Tour;", Cond.fieldLink RX4 10 "Twicebook" "book" "LTwicebook$Page;", Cond.methodLink RX4 123 yX3_isOn, Cond.instanceMethod yX3_isOn, Cond.selects RX3 yX3_isOn yX3_isOn, Cond.initialized RX3, Cond.code yX3_isOn cX3_isOn 1 (some .boolean), Cond.fieldLink RX3 9 "Twicebook$Tour" "on" "Z", Cond.methodLink RX4 132 yX3_nextPlace, Cond.instanceMethod yX3_nextPlace, Cond.selects RX3 yX3_nextPlace yX3_nextPlace, Cond.code yX3_nextPlace cX3_nextPlace 1 (some .int), Cond.fieldLink RX3 19 "Twicebook$Tour" "nextPlace" "I"]
def wsL_step_r2 : List Cond := [Cond.methodLink RX4 135 yX3_order, Cond.instanceMethod yX3_order, Cond.selects RX3 yX3_order yX3_order, Cond.code yX3_order cX3_order 1 (some .char), Cond.fieldLink RX3 15 "Twicebook$Tour" "order" "C", Cond.methodLink RX4 101 yX0_row, Cond.instanceMethod yX0_row, Cond.selects RX0 yX0_row yX0_row, Cond.initialized RX0, Cond.code yX0_row cX0_row 2 (some (.object "Twicebook$Row")), Cond.fieldLink RX0 18 "Twicebook$Page" "asking" "LTwicebook$Row;", Cond.fieldLink RX0 12 "Twicebook$Page" "coming" "LTwicebook$Row;", Cond.methodLink RX4 139 yX2_holdsPlace, Cond.instanceMethod yX2_holdsPlace, Cond.selects RX2 yX2_holdsPlace yX2_holdsPlace, Cond.initialized RX2, Cond.code yX2_holdsPlace cX2_holdsPlace 2 (some .boolean), Cond.fieldLink RX2 18 "Twicebook$Row" "count" "I", Cond.fieldLink RX2 9 "Twicebook$Row" "keys" "[I", Cond.methodLink RX4 147 yX3_goOver, Cond.instanceMethod yX3_goOver, Cond.selects RX3 yX3_goOver yX3_goOver, Cond.code yX3_goOver cX3_goOver 1 none, Cond.fieldLink RX3 23 "Twicebook$Tour" "mayCut" "Z"]
def wsL_step_r3 : List Cond := [Cond.methodLink RX4 105 yX2_keyIn, Cond.instanceMethod yX2_keyIn, Cond.selects RX2 yX2_keyIn yX2_keyIn, Cond.code yX2_keyIn cX2_keyIn 2 (some .int), Cond.methodLink RX2 22 yX2_holdsPlace]
def wsL_step : List Cond := .codeWith yL_step cL_step 3 (some .int) [(0, 8, 11, 65), (0, 8, 14, 23)] :: ((wsL_step_r1 ++ (wsL_step_r2 ++ wsL_step_r3)) ++ wsX40 ++ wsX30 ++ wsX00 ++ wsX20 ++ (vx_atS RX4 131 "java/lang/IllegalStateException" ["java/lang/RuntimeException", "java/lang/Exception"]).filter goodWord ++ (vx_atS RX4 146 "java/util/NoSuchElementException" ["java/lang/RuntimeException", "java/lang/Exception"]).filter goodWord)
def wsL_cut_r1 : List Cond := [Cond.classLink RL 65 "java/lang/IllegalStateException", Cond.methodLink RL 67 yX4_cut, Cond.instanceMethod yX4_cut, Cond.selects RX4 yX4_cut yX4_cut, Cond.initialized RX4, Cond.code yX4_cut cX4_cut 1 (some .int), Cond.classLink RX4 127 "java/lang/IllegalStateException", Cond.initialized "java/lang/IllegalStateException", Cond.fieldLink RX4 26 "Twicebook" "tour" "LTwicebook$Tour;", Cond.fieldLink RX4 19 "Twicebook" "past" "LTwicebook$Past;", Cond.fieldLink RX4 10 "Twicebook" "book" "LTwicebook$Page;", Cond.methodLink RX4 123 yX3_isOn, Cond.instanceMethod yX3_isOn, Cond.selects RX3 yX3_isOn yX3_isOn, Cond.initialized RX3, Cond.code yX3_isOn cX3_isOn 1 (some .boolean), Cond.fieldLink RX3 9 "Twicebook$Tour" "on" "Z", Cond.methodLink RX4 150 yX3_mayCut, Cond.instanceMethod yX3_mayCut, Cond.selects RX3 yX3_mayCut yX3_mayCut, Cond.code yX3_mayCut cX3_mayCut 1 (some .boolean), Cond.fieldLink RX3 23 "Twicebook$Tour" "mayCut" "Z", Cond.methodLink RX4 155 yX1_keep, Cond.instanceMethod yX1_keep]
def wsL_cut_r2 : List Cond := [Cond.selects RX1 yX1_keep yX1_keep, Cond.initialized RX1, Cond.code yX1_keep cX1_keep 2 none, Cond.fieldLink RX1 18 "Twicebook$Past" "free" "I", Cond.fieldLink RX1 11 "Twicebook$Past" "pages" "[LTwicebook$Page;", Cond.fieldLink RX1 22 "Twicebook$Past" "kept" "I", Cond.methodLink RX1 29 Lib.Math.min.name, Cond.static Lib.Math.min.name, Cond.initialized "java/lang/Math", Cond.code Lib.Math.min.name Lib.Math.min.code 2 (some .int), Cond.methodLink RX1 25 yX0_become, Cond.instanceMethod yX0_become, Cond.selects RX0 yX0_become yX0_become, Cond.initialized RX0, Cond.code yX0_become cX0_become 2 none, Cond.fieldLink RX0 12 "Twicebook$Page" "coming" "LTwicebook$Row;", Cond.fieldLink RX0 18 "Twicebook$Page" "asking" "LTwicebook$Row;", Cond.fieldLink RX0 21 "Twicebook$Page" "most" "I", Cond.fieldLink RX0 25 "Twicebook$Page" "eldestBy" "C", Cond.methodLink RX0 73 yX2_become, Cond.instanceMethod yX2_become, Cond.selects RX2 yX2_become yX2_become, Cond.initialized RX2, Cond.code yX2_become cX2_become 3 none]
def wsL_cut_r3 : List Cond := [Cond.fieldLink RX2 18 "Twicebook$Row" "count" "I", Cond.methodLink RX2 26 yX2_keyIn, Cond.instanceMethod yX2_keyIn, Cond.selects RX2 yX2_keyIn yX2_keyIn, Cond.code yX2_keyIn cX2_keyIn 2 (some .int), Cond.fieldLink RX2 9 "Twicebook$Row" "keys" "[I", Cond.methodLink RX2 22 yX2_holdsPlace, Cond.instanceMethod yX2_holdsPlace, Cond.selects RX2 yX2_holdsPlace yX2_holdsPlace, Cond.code yX2_holdsPlace cX2_holdsPlace 2 (some .boolean), Cond.methodLink RX2 38 yX2_valueIn, Cond.instanceMethod yX2_valueIn, Cond.selects RX2 yX2_valueIn yX2_valueIn, Cond.code yX2_valueIn cX2_valueIn 2 (some .int), Cond.fieldLink RX2 15 "Twicebook$Row" "values" "[I", Cond.methodLink RX2 34 yX2_append, Cond.instanceMethod yX2_append, Cond.selects RX2 yX2_append yX2_append, Cond.code yX2_append cX2_append 3 none, Cond.methodLink RX4 135 yX3_order, Cond.instanceMethod yX3_order, Cond.selects RX3 yX3_order yX3_order, Cond.code yX3_order cX3_order 1 (some .char), Cond.fieldLink RX3 15 "Twicebook$Tour" "order" "C"]
def wsL_cut_r4 : List Cond := [Cond.methodLink RX4 101 yX0_row, Cond.instanceMethod yX0_row, Cond.selects RX0 yX0_row yX0_row, Cond.code yX0_row cX0_row 2 (some (.object "Twicebook$Row")), Cond.methodLink RX4 132 yX3_nextPlace, Cond.instanceMethod yX3_nextPlace, Cond.selects RX3 yX3_nextPlace yX3_nextPlace, Cond.code yX3_nextPlace cX3_nextPlace 1 (some .int), Cond.fieldLink RX3 19 "Twicebook$Tour" "nextPlace" "I", Cond.methodLink RX4 105 yX2_keyIn, Cond.methodLink RX4 66 yX0_takeOut, Cond.instanceMethod yX0_takeOut, Cond.selects RX0 yX0_takeOut yX0_takeOut, Cond.code yX0_takeOut cX0_takeOut 2 none, Cond.methodLink RX0 29 yX2_find, Cond.instanceMethod yX2_find, Cond.selects RX2 yX2_find yX2_find, Cond.code yX2_find cX2_find 3 (some .int), Cond.methodLink RX0 44 yX2_close, Cond.instanceMethod yX2_close, Cond.selects RX2 yX2_close yX2_close, Cond.code yX2_close cX2_close 3 none, Cond.methodLink RX4 159 yX3_goBack, Cond.instanceMethod yX3_goBack]
def wsL_cut_r5 : List Cond := [Cond.selects RX3 yX3_goBack yX3_goBack, Cond.code yX3_goBack cX3_goBack 1 none, Cond.methodLink RX4 72 yX2_count, Cond.instanceMethod yX2_count, Cond.selects RX2 yX2_count yX2_count, Cond.code yX2_count cX2_count 1 (some .int)]
def wsL_cut : List Cond := .codeWith yL_cut cL_cut 3 (some .int) [(0, 8, 11, 65)] :: ((wsL_cut_r1 ++ (wsL_cut_r2 ++ (wsL_cut_r3 ++ (wsL_cut_r4 ++ wsL_cut_r5)))) ++ wsX40 ++ wsX00 ++ wsX30 ++ wsX10 ++ wsX20 ++ (vx_atS RX4 131 "java/lang/IllegalStateException" ["java/lang/RuntimeException", "java/lang/Exception"]).filter goodWord)
def wsL_move_r1 : List Cond := [Cond.classLink RL 42 "java/lang/IndexOutOfBoundsException", Cond.methodLink RL 70 yX4_move, Cond.instanceMethod yX4_move, Cond.selects RX4 yX4_move yX4_move, Cond.initialized RX4, Cond.code yX4_move cX4_move 3 (some .int), Cond.classLink RX4 165 "java/lang/IndexOutOfBoundsException", Cond.initialized "java/lang/IndexOutOfBoundsException", Cond.fieldLink RX4 10 "Twicebook" "book" "LTwicebook$Page;", Cond.methodLink RX4 162 yX0_staying, Cond.instanceMethod yX0_staying, Cond.selects RX0 yX0_staying yX0_staying, Cond.initialized RX0, Cond.code yX0_staying cX0_staying 4 (some .int), Cond.fieldLink RX0 18 "Twicebook$Page" "asking" "LTwicebook$Row;", Cond.fieldLink RX0 12 "Twicebook$Page" "coming" "LTwicebook$Row;", Cond.methodLink RX0 47 yX2_count, Cond.instanceMethod yX2_count, Cond.selects RX2 yX2_count yX2_count, Cond.initialized RX2, Cond.code yX2_count cX2_count 1 (some .int), Cond.fieldLink RX2 18 "Twicebook$Row" "count" "I", Cond.methodLink RX0 67 yX2_keyIn, Cond.instanceMethod yX2_keyIn]
def wsL_move_r2 : List Cond := [Cond.selects RX2 yX2_keyIn yX2_keyIn, Cond.code yX2_keyIn cX2_keyIn 2 (some .int), Cond.fieldLink RX2 9 "Twicebook$Row" "keys" "[I", Cond.methodLink RX2 22 yX2_holdsPlace, Cond.instanceMethod yX2_holdsPlace, Cond.selects RX2 yX2_holdsPlace yX2_holdsPlace, Cond.code yX2_holdsPlace cX2_holdsPlace 2 (some .boolean), Cond.methodLink RX0 29 yX2_find, Cond.instanceMethod yX2_find, Cond.selects RX2 yX2_find yX2_find, Cond.code yX2_find cX2_find 3 (some .int), Cond.methodLink RX2 26 yX2_keyIn, Cond.methodLink RX4 72 yX2_count, Cond.methodLink RX4 105 yX2_keyIn]
def wsL_move : List Cond := .codeWith yL_move cL_move 4 (some .int) [(0, 9, 12, 42)] :: ((wsL_move_r1 ++ wsL_move_r2) ++ wsX40 ++ wsX00 ++ wsX20 ++ (vx_atS RX4 169 "java/lang/IndexOutOfBoundsException" ["java/lang/RuntimeException", "java/lang/Exception"]).filter goodWord)
def wsL_undo_r1 : List Cond := [Cond.classLink RL 23 "java/util/NoSuchElementException", Cond.methodLink RL 73 yX4_undo, Cond.instanceMethod yX4_undo, Cond.selects RX4 yX4_undo yX4_undo, Cond.initialized RX4, Cond.code yX4_undo cX4_undo 1 (some .int), Cond.classLink RX4 142 "java/util/NoSuchElementException", Cond.initialized "java/util/NoSuchElementException", Cond.fieldLink RX4 19 "Twicebook" "past" "LTwicebook$Past;", Cond.fieldLink RX4 26 "Twicebook" "tour" "LTwicebook$Tour;", Cond.fieldLink RX4 10 "Twicebook" "book" "LTwicebook$Page;", Cond.methodLink RX4 176 yX1_kept, Cond.instanceMethod yX1_kept, Cond.selects RX1 yX1_kept yX1_kept, Cond.initialized RX1, Cond.code yX1_kept cX1_kept 1 (some .int), Cond.fieldLink RX1 22 "Twicebook$Past" "kept" "I", Cond.methodLink RX4 181 yX3_end, Cond.instanceMethod yX3_end, Cond.selects RX3 yX3_end yX3_end, Cond.initialized RX3, Cond.code yX3_end cX3_end 1 none, Cond.fieldLink RX3 9 "Twicebook$Tour" "on" "Z", Cond.methodLink RX4 184 yX1_bringBack]
def wsL_undo_r2 : List Cond := [Cond.instanceMethod yX1_bringBack, Cond.selects RX1 yX1_bringBack yX1_bringBack, Cond.code yX1_bringBack cX1_bringBack 3 none, Cond.fieldLink RX1 18 "Twicebook$Past" "free" "I", Cond.fieldLink RX1 11 "Twicebook$Past" "pages" "[LTwicebook$Page;", Cond.methodLink RX1 25 yX0_become, Cond.instanceMethod yX0_become, Cond.selects RX0 yX0_become yX0_become, Cond.initialized RX0, Cond.code yX0_become cX0_become 2 none, Cond.fieldLink RX0 12 "Twicebook$Page" "coming" "LTwicebook$Row;", Cond.fieldLink RX0 18 "Twicebook$Page" "asking" "LTwicebook$Row;", Cond.fieldLink RX0 21 "Twicebook$Page" "most" "I", Cond.fieldLink RX0 25 "Twicebook$Page" "eldestBy" "C", Cond.methodLink RX0 73 yX2_become, Cond.instanceMethod yX2_become, Cond.selects RX2 yX2_become yX2_become, Cond.initialized RX2, Cond.code yX2_become cX2_become 3 none, Cond.fieldLink RX2 18 "Twicebook$Row" "count" "I", Cond.methodLink RX2 26 yX2_keyIn, Cond.instanceMethod yX2_keyIn, Cond.selects RX2 yX2_keyIn yX2_keyIn, Cond.code yX2_keyIn cX2_keyIn 2 (some .int)]
def wsL_undo_r3 : List Cond := [Cond.fieldLink RX2 9 "Twicebook$Row" "keys" "[I", Cond.methodLink RX2 22 yX2_holdsPlace, Cond.instanceMethod yX2_holdsPlace, Cond.selects RX2 yX2_holdsPlace yX2_holdsPlace, Cond.code yX2_holdsPlace cX2_holdsPlace 2 (some .boolean), Cond.methodLink RX2 38 yX2_valueIn, Cond.instanceMethod yX2_valueIn, Cond.selects RX2 yX2_valueIn yX2_valueIn, Cond.code yX2_valueIn cX2_valueIn 2 (some .int), Cond.fieldLink RX2 15 "Twicebook$Row" "values" "[I", Cond.methodLink RX2 34 yX2_append, Cond.instanceMethod yX2_append, Cond.selects RX2 yX2_append yX2_append, Cond.code yX2_append cX2_append 3 none]
def wsL_undo : List Cond := .codeWith yL_undo cL_undo 3 (some .int) [(0, 8, 11, 23)] :: ((wsL_undo_r1 ++ (wsL_undo_r2 ++ wsL_undo_r3)) ++ wsX40 ++ wsX10 ++ wsX30 ++ wsX00 ++ wsX20 ++ (vx_atS RX4 146 "java/util/NoSuchElementException" ["java/lang/RuntimeException", "java/lang/Exception"]).filter goodWord)
def wsL_law0_r1 : List Cond := [Cond.classLink RL 8 RX4, Cond.instantiable RX4 4, Cond.initialized RX4, Cond.classLink RL 77 RX5, Cond.instantiable RX5 19, Cond.initialized RX5, Cond.arrayClass .long, Cond.methodLink RL 76 yX4_init, Cond.instanceMethod yX4_init, Cond.code yX4_init cX4_init 1 none, Cond.methodLink RX4 1 objectInit, Cond.instanceMethod objectInit, Cond.code objectInit ⟨#[0xb1]⟩ 1 none, Cond.classLink RX4 7 RX0, Cond.instantiable RX0 4, Cond.initialized RX0, Cond.fieldLink RX4 10 "Twicebook" "book" "LTwicebook$Page;", Cond.classLink RX4 16 RX1, Cond.instantiable RX1 3, Cond.initialized RX1, Cond.fieldLink RX4 19 "Twicebook" "past" "LTwicebook$Past;", Cond.classLink RX4 23 RX3, Cond.instantiable RX3 4, Cond.initialized RX3]
def wsL_law0_r2 : List Cond := [Cond.fieldLink RX4 26 "Twicebook" "tour" "LTwicebook$Tour;", Cond.classLink RX4 30 RX2, Cond.instantiable RX2 3, Cond.initialized RX2, Cond.fieldLink RX4 33 "Twicebook" "trial" "LTwicebook$Row;", Cond.methodLink RX4 9 yX0_init, Cond.instanceMethod yX0_init, Cond.code yX0_init cX0_init 1 none, Cond.methodLink RX0 3 objectInit, Cond.classLink RX0 9 RX2, Cond.fieldLink RX0 12 "Twicebook$Page" "coming" "LTwicebook$Row;", Cond.fieldLink RX0 18 "Twicebook$Page" "asking" "LTwicebook$Row;", Cond.fieldLink RX0 21 "Twicebook$Page" "most" "I", Cond.fieldLink RX0 25 "Twicebook$Page" "eldestBy" "C", Cond.methodLink RX0 11 yX2_init, Cond.instanceMethod yX2_init, Cond.code yX2_init cX2_init 1 none, Cond.methodLink RX2 3 objectInit, Cond.arrayClass .int, Cond.fieldLink RX2 9 "Twicebook$Row" "keys" "[I", Cond.fieldLink RX2 15 "Twicebook$Row" "values" "[I", Cond.fieldLink RX2 18 "Twicebook$Row" "count" "I", Cond.methodLink RX4 18 yX1_init, Cond.instanceMethod yX1_init]
def wsL_law0_r3 : List Cond := [Cond.code yX1_init cX1_init 2 none, Cond.methodLink RX1 3 objectInit, Cond.classLink RX1 9 RX0, Cond.fieldLink RX1 11 "Twicebook$Past" "pages" "[LTwicebook$Page;", Cond.fieldLink RX1 18 "Twicebook$Past" "free" "I", Cond.fieldLink RX1 22 "Twicebook$Past" "kept" "I", Cond.methodLink RX1 17 yX0_init, Cond.methodLink RX4 25 yX3_init, Cond.instanceMethod yX3_init, Cond.code yX3_init cX3_init 1 none, Cond.methodLink RX3 3 objectInit, Cond.fieldLink RX3 9 "Twicebook$Tour" "on" "Z", Cond.fieldLink RX3 15 "Twicebook$Tour" "order" "C", Cond.fieldLink RX3 19 "Twicebook$Tour" "nextPlace" "I", Cond.fieldLink RX3 23 "Twicebook$Tour" "mayCut" "Z", Cond.methodLink RX4 32 yX2_init, Cond.methodLink RL 79 yX5_init, Cond.instanceMethod yX5_init, Cond.code yX5_init cX5_init 1 none, Cond.methodLink RX5 1 objectInit, Cond.fieldLink RX5 9 "TwicebookModel" "come" "[I", Cond.fieldLink RX5 13 "TwicebookModel" "values" "[I", Cond.fieldLink RX5 16 "TwicebookModel" "ask" "[I", Cond.fieldLink RX5 19 "TwicebookModel" "limit" "I"]
def wsL_law0_r4 : List Cond := [Cond.fieldLink RX5 23 "TwicebookModel" "way" "C", Cond.classLink RX5 27 "[[I", Cond.fieldLink RX5 29 "TwicebookModel" "comes" "[[I", Cond.fieldLink RX5 32 "TwicebookModel" "valueRows" "[[I", Cond.fieldLink RX5 35 "TwicebookModel" "asks" "[[I", Cond.fieldLink RX5 38 "TwicebookModel" "sizes" "[I", Cond.fieldLink RX5 41 "TwicebookModel" "limits" "[I", Cond.arrayClass .char, Cond.fieldLink RX5 44 "TwicebookModel" "ways" "[C", Cond.fieldLink RX5 48 "TwicebookModel" "path" "[I", Cond.fieldLink RX5 51 "TwicebookModel" "last" "I", Cond.methodLink RL 80 yL_put, Cond.static yL_put, Cond.initialized RL, Cond.codeWith yL_put cL_put 5 (some .int) [(0, 10, 13, 13)], Cond.classLink RL 13 "java/lang/IllegalArgumentException", Cond.methodLink RL 7 yX4_put, Cond.instanceMethod yX4_put, Cond.selects RX4 yX4_put yX4_put, Cond.code yX4_put cX4_put 3 (some .int), Cond.methodLink RX4 37 yX4_refuseKeyOutOfRange, Cond.instanceMethod yX4_refuseKeyOutOfRange, Cond.selects RX4 yX4_refuseKeyOutOfRange yX4_refuseKeyOutOfRange, Cond.code yX4_refuseKeyOutOfRange cX4_refuseKeyOutOfRange 2 none]
def wsL_law0_r5 : List Cond := [Cond.classLink RX4 76 "java/lang/IllegalArgumentException", Cond.initialized "java/lang/IllegalArgumentException", Cond.methodLink RX4 41 yX4_beginChange, Cond.instanceMethod yX4_beginChange, Cond.selects RX4 yX4_beginChange yX4_beginChange, Cond.code yX4_beginChange cX4_beginChange 1 none, Cond.methodLink RX4 181 yX3_end, Cond.instanceMethod yX3_end, Cond.selects RX3 yX3_end yX3_end, Cond.code yX3_end cX3_end 1 none, Cond.methodLink RX4 155 yX1_keep, Cond.instanceMethod yX1_keep, Cond.selects RX1 yX1_keep yX1_keep, Cond.code yX1_keep cX1_keep 2 none, Cond.methodLink RX1 29 Lib.Math.min.name, Cond.static Lib.Math.min.name, Cond.initialized "java/lang/Math", Cond.code Lib.Math.min.name Lib.Math.min.code 2 (some .int), Cond.methodLink RX1 25 yX0_become, Cond.instanceMethod yX0_become, Cond.selects RX0 yX0_become yX0_become, Cond.code yX0_become cX0_become 2 none, Cond.methodLink RX0 73 yX2_become, Cond.instanceMethod yX2_become]
def wsL_law0_r6 : List Cond := [Cond.selects RX2 yX2_become yX2_become, Cond.code yX2_become cX2_become 3 none, Cond.methodLink RX2 26 yX2_keyIn, Cond.instanceMethod yX2_keyIn, Cond.selects RX2 yX2_keyIn yX2_keyIn, Cond.code yX2_keyIn cX2_keyIn 2 (some .int), Cond.methodLink RX2 22 yX2_holdsPlace, Cond.instanceMethod yX2_holdsPlace, Cond.selects RX2 yX2_holdsPlace yX2_holdsPlace, Cond.code yX2_holdsPlace cX2_holdsPlace 2 (some .boolean), Cond.methodLink RX2 38 yX2_valueIn, Cond.instanceMethod yX2_valueIn, Cond.selects RX2 yX2_valueIn yX2_valueIn, Cond.code yX2_valueIn cX2_valueIn 2 (some .int), Cond.methodLink RX2 34 yX2_append, Cond.instanceMethod yX2_append, Cond.selects RX2 yX2_append yX2_append, Cond.code yX2_append cX2_append 3 none, Cond.methodLink RX4 44 yX0_holds, Cond.instanceMethod yX0_holds, Cond.selects RX0 yX0_holds yX0_holds, Cond.code yX0_holds cX0_holds 2 (some .boolean), Cond.methodLink RX0 29 yX2_find, Cond.instanceMethod yX2_find]
def wsL_law0_r7 : List Cond := [Cond.selects RX2 yX2_find yX2_find, Cond.code yX2_find cX2_find 3 (some .int), Cond.methodLink RX4 48 yX0_giveKey, Cond.instanceMethod yX0_giveKey, Cond.selects RX0 yX0_giveKey yX0_giveKey, Cond.code yX0_giveKey cX0_giveKey 3 none, Cond.methodLink RX0 36 yX2_give, Cond.instanceMethod yX2_give, Cond.selects RX2 yX2_give yX2_give, Cond.code yX2_give cX2_give 3 none, Cond.methodLink RX4 52 yX0_touch, Cond.instanceMethod yX0_touch, Cond.selects RX0 yX0_touch yX0_touch, Cond.code yX0_touch cX0_touch 2 none, Cond.methodLink RX0 40 yX2_putLast, Cond.instanceMethod yX2_putLast, Cond.selects RX2 yX2_putLast yX2_putLast, Cond.code yX2_putLast cX2_putLast 4 none, Cond.methodLink RX2 30 yX2_close, Cond.instanceMethod yX2_close, Cond.selects RX2 yX2_close yX2_close, Cond.code yX2_close cX2_close 3 none, Cond.methodLink RX4 55 yX0_letIn, Cond.instanceMethod yX0_letIn]
def wsL_law0_r8 : List Cond := [Cond.selects RX0 yX0_letIn yX0_letIn, Cond.code yX0_letIn cX0_letIn 4 (some .int), Cond.methodLink RX0 47 yX2_count, Cond.instanceMethod yX2_count, Cond.selects RX2 yX2_count yX2_count, Cond.code yX2_count cX2_count 1 (some .int), Cond.methodLink RX0 51 yX0_dropEldest, Cond.instanceMethod yX0_dropEldest, Cond.selects RX0 yX0_dropEldest yX0_dropEldest, Cond.code yX0_dropEldest cX0_dropEldest 2 (some .int), Cond.methodLink RX0 63 yX0_row, Cond.instanceMethod yX0_row, Cond.selects RX0 yX0_row yX0_row, Cond.code yX0_row cX0_row 2 (some (.object "Twicebook$Row")), Cond.methodLink RX0 67 yX2_keyIn, Cond.methodLink RX0 70 yX0_takeOut, Cond.instanceMethod yX0_takeOut, Cond.selects RX0 yX0_takeOut yX0_takeOut, Cond.code yX0_takeOut cX0_takeOut 2 none, Cond.methodLink RX0 44 yX2_close, Cond.methodLink RX0 54 yX2_append, Cond.methodLink RL 85 yX5_put, Cond.instanceMethod yX5_put, Cond.selects RX5 yX5_put yX5_put]
def wsL_law0_r9 : List Cond := [Cond.code yX5_put cX5_put 4 (some .int), Cond.methodLink RX5 90 yX5_in, Cond.static yX5_in, Cond.code yX5_in cX5_in 3 (some .boolean), Cond.methodLink RX5 94 yX5_no, Cond.instanceMethod yX5_no, Cond.selects RX5 yX5_no yX5_no, Cond.code yX5_no cX5_no 3 (some .boolean), Cond.fieldLink RX5 54 "TwicebookModel" "thrown" "I", Cond.methodLink RX5 98 yX5_changes, Cond.instanceMethod yX5_changes, Cond.selects RX5 yX5_changes yX5_changes, Cond.code yX5_changes cX5_changes 1 none, Cond.fieldLink RX5 74 "TwicebookModel" "isWalk" "Z", Cond.methodLink RX5 71 yX5_keeps, Cond.instanceMethod yX5_keeps, Cond.selects RX5 yX5_keeps yX5_keeps, Cond.code yX5_keeps cX5_keeps 2 none, Cond.fieldLink RX5 64 "TwicebookModel" "kept" "I", Cond.fieldLink RX5 57 "TwicebookModel" "size" "I", Cond.methodLink RX5 67 yX5_moved, Cond.instanceMethod yX5_moved, Cond.selects RX5 yX5_moved yX5_moved, Cond.code yX5_moved cX5_moved 3 none]
def wsL_law0_r10 : List Cond := [Cond.methodLink RX5 60 yX5_copied, Cond.static yX5_copied, Cond.code yX5_copied cX5_copied 3 none, Cond.methodLink RX5 78 yX5_place, Cond.instanceMethod yX5_place, Cond.selects RX5 yX5_place yX5_place, Cond.code yX5_place cX5_place 4 (some .int), Cond.methodLink RX5 101 yX5_comesIn, Cond.instanceMethod yX5_comesIn, Cond.selects RX5 yX5_comesIn yX5_comesIn, Cond.code yX5_comesIn cX5_comesIn 4 (some .int), Cond.methodLink RX5 82 yX5_row, Cond.instanceMethod yX5_row, Cond.selects RX5 yX5_row yX5_row, Cond.code yX5_row cX5_row 2 (some (.array .int)), Cond.methodLink RX5 86 yX5_out, Cond.instanceMethod yX5_out, Cond.selects RX5 yX5_out yX5_out, Cond.code yX5_out cX5_out 4 none, Cond.methodLink RX5 105 yX5_touched, Cond.instanceMethod yX5_touched, Cond.selects RX5 yX5_touched yX5_touched, Cond.code yX5_touched cX5_touched 4 none, Cond.methodLink RL 86 yX5_thrown]
def wsL_law0_r11 : List Cond := [Cond.instanceMethod yX5_thrown, Cond.selects RX5 yX5_thrown yX5_thrown, Cond.code yX5_thrown cX5_thrown 1 (some .int), Cond.methodLink RL 89 yL_putIfAbsent, Cond.static yL_putIfAbsent, Cond.codeWith yL_putIfAbsent cL_putIfAbsent 5 (some .int) [(0, 17, 20, 13)], Cond.methodLink RL 15 yX4_putIfAbsent, Cond.instanceMethod yX4_putIfAbsent, Cond.selects RX4 yX4_putIfAbsent yX4_putIfAbsent, Cond.code yX4_putIfAbsent cX4_putIfAbsent 3 (some .boolean), Cond.methodLink RL 91 yX5_putIfAbsent, Cond.instanceMethod yX5_putIfAbsent, Cond.selects RX5 yX5_putIfAbsent yX5_putIfAbsent, Cond.code yX5_putIfAbsent cX5_putIfAbsent 3 (some .boolean), Cond.methodLink RL 92 yL_get, Cond.static yL_get, Cond.codeWith yL_get cL_get 4 (some .int) [(0, 9, 12, 23)], Cond.classLink RL 23 "java/util/NoSuchElementException", Cond.methodLink RL 19 yX4_get, Cond.instanceMethod yX4_get, Cond.selects RX4 yX4_get yX4_get, Cond.code yX4_get cX4_get 2 (some .int), Cond.methodLink RX4 59 yX4_refuseAbsentKey, Cond.instanceMethod yX4_refuseAbsentKey]
def wsL_law0_r12 : List Cond := [Cond.selects RX4 yX4_refuseAbsentKey yX4_refuseAbsentKey, Cond.code yX4_refuseAbsentKey cX4_refuseAbsentKey 2 none, Cond.classLink RX4 142 "java/util/NoSuchElementException", Cond.initialized "java/util/NoSuchElementException", Cond.methodLink RX4 62 yX0_valueOf, Cond.instanceMethod yX0_valueOf, Cond.selects RX0 yX0_valueOf yX0_valueOf, Cond.code yX0_valueOf cX0_valueOf 2 (some .int), Cond.methodLink RX0 33 yX2_valueIn, Cond.methodLink RL 95 yX5_get, Cond.instanceMethod yX5_get, Cond.selects RX5 yX5_get yX5_get, Cond.code yX5_get cX5_get 3 (some .int), Cond.methodLink RL 96 yX4_getOr, Cond.instanceMethod yX4_getOr, Cond.selects RX4 yX4_getOr yX4_getOr, Cond.code yX4_getOr cX4_getOr 3 (some .int), Cond.methodLink RL 99 yX5_getOr, Cond.instanceMethod yX5_getOr, Cond.selects RX5 yX5_getOr yX5_getOr, Cond.code yX5_getOr cX5_getOr 4 (some .int), Cond.methodLink RL 100 yX4_replace, Cond.instanceMethod yX4_replace, Cond.selects RX4 yX4_replace yX4_replace]
def wsL_law0_r13 : List Cond := [Cond.code yX4_replace cX4_replace 3 (some .boolean), Cond.methodLink RL 103 yX5_replace, Cond.instanceMethod yX5_replace, Cond.selects RX5 yX5_replace yX5_replace, Cond.code yX5_replace cX5_replace 4 (some .boolean), Cond.methodLink RL 104 yX4_replaceIf, Cond.instanceMethod yX4_replaceIf, Cond.selects RX4 yX4_replaceIf yX4_replaceIf, Cond.code yX4_replaceIf cX4_replaceIf 4 (some .boolean), Cond.methodLink RL 108 yX5_replaceIf, Cond.instanceMethod yX5_replaceIf, Cond.selects RX5 yX5_replaceIf yX5_replaceIf, Cond.code yX5_replaceIf cX5_replaceIf 5 (some .boolean), Cond.methodLink RL 109 yL_look, Cond.static yL_look, Cond.codeWith yL_look cL_look 4 (some .int) [(0, 9, 12, 23)], Cond.methodLink RL 25 yX4_look, Cond.instanceMethod yX4_look, Cond.selects RX4 yX4_look yX4_look, Cond.code yX4_look cX4_look 2 (some .int), Cond.methodLink RL 111 yX5_look, Cond.instanceMethod yX5_look, Cond.selects RX5 yX5_look yX5_look, Cond.code yX5_look cX5_look 3 (some .int)]
def wsL_law0_r14 : List Cond := [Cond.methodLink RL 112 yX4_has, Cond.instanceMethod yX4_has, Cond.selects RX4 yX4_has yX4_has, Cond.code yX4_has cX4_has 2 (some .boolean), Cond.methodLink RL 116 yX5_has, Cond.instanceMethod yX5_has, Cond.selects RX5 yX5_has yX5_has, Cond.code yX5_has cX5_has 2 (some .boolean), Cond.methodLink RL 117 yL_remove, Cond.static yL_remove, Cond.codeWith yL_remove cL_remove 4 (some .int) [(0, 9, 12, 23)], Cond.methodLink RL 28 yX4_remove, Cond.instanceMethod yX4_remove, Cond.selects RX4 yX4_remove yX4_remove, Cond.code yX4_remove cX4_remove 3 (some .int), Cond.methodLink RX4 66 yX0_takeOut, Cond.methodLink RL 119 yX5_remove, Cond.instanceMethod yX5_remove, Cond.selects RX5 yX5_remove yX5_remove, Cond.code yX5_remove cX5_remove 4 (some .int), Cond.methodLink RL 120 yX4_size, Cond.instanceMethod yX4_size, Cond.selects RX4 yX4_size yX4_size, Cond.code yX4_size cX4_size 1 (some .int)]
def wsL_law0_r15 : List Cond := [Cond.methodLink RX4 72 yX2_count, Cond.methodLink RL 123 yX5_size, Cond.instanceMethod yX5_size, Cond.selects RX5 yX5_size yX5_size, Cond.code yX5_size cX5_size 1 (some .int), Cond.methodLink RL 124 yL_limit, Cond.static yL_limit, Cond.codeWith yL_limit cL_limit 4 (some .int) [(0, 9, 12, 13)], Cond.methodLink RL 31 yX4_limit, Cond.instanceMethod yX4_limit, Cond.selects RX4 yX4_limit yX4_limit, Cond.code yX4_limit cX4_limit 2 (some .int), Cond.methodLink RX4 87 yX0_dropWhatIsOver, Cond.instanceMethod yX0_dropWhatIsOver, Cond.selects RX0 yX0_dropWhatIsOver yX0_dropWhatIsOver, Cond.code yX0_dropWhatIsOver cX0_dropWhatIsOver 3 (some .int), Cond.methodLink RX0 57 Lib.Math.max.name, Cond.static Lib.Math.max.name, Cond.code Lib.Math.max.name Lib.Math.max.code 2 (some .int), Cond.methodLink RL 126 yX5_limit, Cond.instanceMethod yX5_limit, Cond.selects RX5 yX5_limit yX5_limit, Cond.code yX5_limit cX5_limit 3 (some .int), Cond.methodLink RL 127 yL_way]
def wsL_law0_r16 : List Cond := [Cond.static yL_way, Cond.codeWith yL_way cL_way 4 (some .int) [(0, 9, 12, 13)], Cond.methodLink RL 34 yX4_way, Cond.instanceMethod yX4_way, Cond.selects RX4 yX4_way yX4_way, Cond.code yX4_way cX4_way 3 (some .char), Cond.methodLink RX4 90 yX4_refuseUnknownOrder, Cond.instanceMethod yX4_refuseUnknownOrder, Cond.selects RX4 yX4_refuseUnknownOrder yX4_refuseUnknownOrder, Cond.code yX4_refuseUnknownOrder cX4_refuseUnknownOrder 2 none, Cond.methodLink RL 130 yX5_way, Cond.instanceMethod yX5_way, Cond.selects RX5 yX5_way yX5_way, Cond.code yX5_way cX5_way 3 (some .char), Cond.methodLink RX5 108 yX5_isOrder, Cond.static yX5_isOrder, Cond.code yX5_isOrder cX5_isOrder 1 (some .boolean), Cond.methodLink RL 131 yL_keyAt, Cond.static yL_keyAt, Cond.codeWith yL_keyAt cL_keyAt 5 (some .int) [(0, 10, 13, 13), (0, 10, 17, 42)], Cond.classLink RL 42 "java/lang/IndexOutOfBoundsException", Cond.methodLink RL 38 yX4_keyAt, Cond.instanceMethod yX4_keyAt, Cond.selects RX4 yX4_keyAt yX4_keyAt]
def wsL_law0_r17 : List Cond := [Cond.code yX4_keyAt cX4_keyAt 3 (some .int), Cond.methodLink RX4 98 yX4_refuseUnknownPlace, Cond.instanceMethod yX4_refuseUnknownPlace, Cond.selects RX4 yX4_refuseUnknownPlace yX4_refuseUnknownPlace, Cond.code yX4_refuseUnknownPlace cX4_refuseUnknownPlace 2 none, Cond.classLink RX4 165 "java/lang/IndexOutOfBoundsException", Cond.initialized "java/lang/IndexOutOfBoundsException", Cond.methodLink RX4 139 yX2_holdsPlace, Cond.methodLink RX4 101 yX0_row, Cond.methodLink RX4 105 yX2_keyIn, Cond.methodLink RL 134 yX5_keyAt, Cond.instanceMethod yX5_keyAt, Cond.selects RX5 yX5_keyAt yX5_keyAt, Cond.code yX5_keyAt cX5_keyAt 3 (some .int), Cond.methodLink RL 135 yL_placeOf, Cond.static yL_placeOf, Cond.codeWith yL_placeOf cL_placeOf 5 (some .int) [(0, 10, 13, 13), (0, 10, 17, 23)], Cond.methodLink RL 44 yX4_placeOf, Cond.instanceMethod yX4_placeOf, Cond.selects RX4 yX4_placeOf yX4_placeOf, Cond.code yX4_placeOf cX4_placeOf 3 (some .int), Cond.methodLink RX4 108 yX2_find, Cond.methodLink RL 137 yX5_placeOf, Cond.instanceMethod yX5_placeOf]
def wsL_law0_r18 : List Cond := [Cond.selects RX5 yX5_placeOf yX5_placeOf, Cond.code yX5_placeOf cX5_placeOf 4 (some .int), Cond.methodLink RL 138 yL_setAt, Cond.static yL_setAt, Cond.codeWith yL_setAt cL_setAt 6 (some .int) [(0, 12, 15, 13), (0, 12, 19, 42)], Cond.methodLink RL 47 yX4_setAt, Cond.instanceMethod yX4_setAt, Cond.selects RX4 yX4_setAt yX4_setAt, Cond.code yX4_setAt cX4_setAt 6 (some .int), Cond.methodLink RX4 111 yX2_valueIn, Cond.methodLink RL 141 yX5_setAt, Cond.instanceMethod yX5_setAt, Cond.selects RX5 yX5_setAt yX5_setAt, Cond.code yX5_setAt cX5_setAt 6 (some .int), Cond.methodLink RL 142 yL_removeAt, Cond.static yL_removeAt, Cond.codeWith yL_removeAt cL_removeAt 5 (some .int) [(0, 10, 13, 13), (0, 10, 17, 42)], Cond.methodLink RL 51 yX4_removeAt, Cond.instanceMethod yX4_removeAt, Cond.selects RX4 yX4_removeAt yX4_removeAt, Cond.code yX4_removeAt cX4_removeAt 4 (some .int), Cond.methodLink RL 144 yX5_removeAt, Cond.instanceMethod yX5_removeAt, Cond.selects RX5 yX5_removeAt yX5_removeAt]
def wsL_law0_r19 : List Cond := [Cond.code yX5_removeAt cX5_removeAt 4 (some .int), Cond.methodLink RL 145 yL_thin, Cond.static yL_thin, Cond.codeWith yL_thin cL_thin 5 (some .int) [(0, 10, 13, 13)], Cond.methodLink RL 54 yX4_thin, Cond.instanceMethod yX4_thin, Cond.selects RX4 yX4_thin yX4_thin, Cond.code yX4_thin cX4_thin 3 (some .int), Cond.methodLink RX4 116 yX0_takeOutEach, Cond.instanceMethod yX0_takeOutEach, Cond.selects RX0 yX0_takeOutEach yX0_takeOutEach, Cond.code yX0_takeOutEach cX0_takeOutEach 5 (some .int), Cond.methodLink RL 147 yX5_thin, Cond.instanceMethod yX5_thin, Cond.selects RX5 yX5_thin yX5_thin, Cond.code yX5_thin cX5_thin 5 (some .int), Cond.methodLink RL 148 yL_walk, Cond.static yL_walk, Cond.codeWith yL_walk cL_walk 4 (some .int) [(0, 9, 12, 13)], Cond.methodLink RL 57 yX4_walk, Cond.instanceMethod yX4_walk, Cond.selects RX4 yX4_walk yX4_walk, Cond.code yX4_walk cX4_walk 2 (some .int), Cond.methodLink RX4 120 yX3_begin]
def wsL_law0_r20 : List Cond := [Cond.instanceMethod yX3_begin, Cond.selects RX3 yX3_begin yX3_begin, Cond.code yX3_begin cX3_begin 2 none, Cond.methodLink RL 150 yX5_walk, Cond.instanceMethod yX5_walk, Cond.selects RX5 yX5_walk yX5_walk, Cond.code yX5_walk cX5_walk 2 (some .int), Cond.fieldLink RX5 112 "TwicebookModel" "pathSize" "I", Cond.fieldLink RX5 115 "TwicebookModel" "next" "I", Cond.methodLink RL 151 yL_step, Cond.static yL_step, Cond.codeWith yL_step cL_step 3 (some .int) [(0, 8, 11, 65), (0, 8, 14, 23)], Cond.classLink RL 65 "java/lang/IllegalStateException", Cond.methodLink RL 61 yX4_step, Cond.instanceMethod yX4_step, Cond.selects RX4 yX4_step yX4_step, Cond.code yX4_step cX4_step 2 (some .int), Cond.classLink RX4 127 "java/lang/IllegalStateException", Cond.initialized "java/lang/IllegalStateException", Cond.methodLink RX4 123 yX3_isOn, Cond.instanceMethod yX3_isOn, Cond.selects RX3 yX3_isOn yX3_isOn, Cond.code yX3_isOn cX3_isOn 1 (some .boolean), Cond.methodLink RX4 132 yX3_nextPlace]
def wsL_law0_r21 : List Cond := [Cond.instanceMethod yX3_nextPlace, Cond.selects RX3 yX3_nextPlace yX3_nextPlace, Cond.code yX3_nextPlace cX3_nextPlace 1 (some .int), Cond.methodLink RX4 135 yX3_order, Cond.instanceMethod yX3_order, Cond.selects RX3 yX3_order yX3_order, Cond.code yX3_order cX3_order 1 (some .char), Cond.methodLink RX4 147 yX3_goOver, Cond.instanceMethod yX3_goOver, Cond.selects RX3 yX3_goOver yX3_goOver, Cond.code yX3_goOver cX3_goOver 1 none, Cond.methodLink RL 154 yX5_step, Cond.instanceMethod yX5_step, Cond.selects RX5 yX5_step yX5_step, Cond.code yX5_step cX5_step 1 (some .int), Cond.methodLink RL 155 yL_cut, Cond.static yL_cut, Cond.codeWith yL_cut cL_cut 3 (some .int) [(0, 8, 11, 65)], Cond.methodLink RL 67 yX4_cut, Cond.instanceMethod yX4_cut, Cond.selects RX4 yX4_cut yX4_cut, Cond.code yX4_cut cX4_cut 1 (some .int), Cond.methodLink RX4 150 yX3_mayCut, Cond.instanceMethod yX3_mayCut]
def wsL_law0_r22 : List Cond := [Cond.selects RX3 yX3_mayCut yX3_mayCut, Cond.code yX3_mayCut cX3_mayCut 1 (some .boolean), Cond.methodLink RX4 159 yX3_goBack, Cond.instanceMethod yX3_goBack, Cond.selects RX3 yX3_goBack yX3_goBack, Cond.code yX3_goBack cX3_goBack 1 none, Cond.methodLink RL 157 yX5_cut, Cond.instanceMethod yX5_cut, Cond.selects RX5 yX5_cut yX5_cut, Cond.code yX5_cut cX5_cut 1 (some .int), Cond.methodLink RL 158 yX4_moves, Cond.instanceMethod yX4_moves, Cond.selects RX4 yX4_moves yX4_moves, Cond.code yX4_moves cX4_moves 1 (some .int), Cond.methodLink RX4 162 yX0_staying, Cond.instanceMethod yX0_staying, Cond.selects RX0 yX0_staying yX0_staying, Cond.code yX0_staying cX0_staying 4 (some .int), Cond.methodLink RL 161 yX5_moves, Cond.instanceMethod yX5_moves, Cond.selects RX5 yX5_moves yX5_moves, Cond.code yX5_moves cX5_moves 1 (some .int), Cond.methodLink RX5 118 yX5_staying, Cond.instanceMethod yX5_staying]
def wsL_law0_r23 : List Cond := [Cond.selects RX5 yX5_staying yX5_staying, Cond.code yX5_staying cX5_staying 3 (some .int), Cond.methodLink RL 162 yL_move, Cond.static yL_move, Cond.codeWith yL_move cL_move 4 (some .int) [(0, 9, 12, 42)], Cond.methodLink RL 70 yX4_move, Cond.instanceMethod yX4_move, Cond.selects RX4 yX4_move yX4_move, Cond.code yX4_move cX4_move 3 (some .int), Cond.methodLink RL 164 yX5_move, Cond.instanceMethod yX5_move, Cond.selects RX5 yX5_move yX5_move, Cond.code yX5_move cX5_move 3 (some .int), Cond.methodLink RL 165 yX4_crossings, Cond.instanceMethod yX4_crossings, Cond.selects RX4 yX4_crossings yX4_crossings, Cond.code yX4_crossings cX4_crossings 1 (some .int), Cond.methodLink RX4 173 yX0_crossedPairs, Cond.instanceMethod yX0_crossedPairs, Cond.selects RX0 yX0_crossedPairs yX0_crossedPairs, Cond.code yX0_crossedPairs cX0_crossedPairs 5 (some .int), Cond.methodLink RL 168 yX5_crossings, Cond.instanceMethod yX5_crossings, Cond.selects RX5 yX5_crossings yX5_crossings]
def wsL_law0_r24 : List Cond := [Cond.code yX5_crossings cX5_crossings 4 (some .int), Cond.methodLink RL 169 yL_undo, Cond.static yL_undo, Cond.codeWith yL_undo cL_undo 3 (some .int) [(0, 8, 11, 23)], Cond.methodLink RL 73 yX4_undo, Cond.instanceMethod yX4_undo, Cond.selects RX4 yX4_undo yX4_undo, Cond.code yX4_undo cX4_undo 1 (some .int), Cond.methodLink RX4 176 yX1_kept, Cond.instanceMethod yX1_kept, Cond.selects RX1 yX1_kept yX1_kept, Cond.code yX1_kept cX1_kept 1 (some .int), Cond.methodLink RX4 184 yX1_bringBack, Cond.instanceMethod yX1_bringBack, Cond.selects RX1 yX1_bringBack yX1_bringBack, Cond.code yX1_bringBack cX1_bringBack 3 none, Cond.methodLink RL 171 yX5_undo, Cond.instanceMethod yX5_undo, Cond.selects RX5 yX5_undo yX5_undo, Cond.code yX5_undo cX5_undo 1 (some .int), Cond.methodLink RL 172 yX4_isTrue, Cond.instanceMethod yX4_isTrue, Cond.selects RX4 yX4_isTrue yX4_isTrue, Cond.code yX4_isTrue cX4_isTrue 1 (some .boolean)]
def wsL_law0_r25 : List Cond := [Cond.methodLink RX4 187 yX2_tellsAlike, Cond.instanceMethod yX2_tellsAlike, Cond.selects RX2 yX2_tellsAlike yX2_tellsAlike, Cond.code yX2_tellsAlike cX2_tellsAlike 2 (some .boolean), Cond.methodLink RX2 41 yX2_find, Cond.methodLink RX4 190 yX2_hasEntriesOf, Cond.instanceMethod yX2_hasEntriesOf, Cond.selects RX2 yX2_hasEntriesOf yX2_hasEntriesOf, Cond.code yX2_hasEntriesOf cX2_hasEntriesOf 4 (some .boolean), Cond.methodLink RX4 194 yX4_movesGiveAsking, Cond.instanceMethod yX4_movesGiveAsking, Cond.selects RX4 yX4_movesGiveAsking yX4_movesGiveAsking, Cond.code yX4_movesGiveAsking cX4_movesGiveAsking 2 (some .boolean), Cond.methodLink RX4 201 yX2_become, Cond.methodLink RX4 205 yX2_putLast, Cond.methodLink RX4 208 yX2_sameAs, Cond.instanceMethod yX2_sameAs, Cond.selects RX2 yX2_sameAs yX2_sameAs, Cond.code yX2_sameAs cX2_sameAs 3 (some .boolean), Cond.methodLink RL 176 yX5_isTrue, Cond.instanceMethod yX5_isTrue, Cond.selects RX5 yX5_isTrue yX5_isTrue, Cond.code yX5_isTrue cX5_isTrue 1 (some .boolean), Cond.methodLink RL 177 yX4_checksum]
def wsL_law0_r26 : List Cond := [Cond.instanceMethod yX4_checksum, Cond.selects RX4 yX4_checksum yX4_checksum, Cond.code yX4_checksum cX4_checksum 4 (some .long), Cond.constantLong RX4 197 (7), Cond.constantLong RX4 199 (31), Cond.methodLink RL 181 yX5_checksum, Cond.instanceMethod yX5_checksum, Cond.selects RX5 yX5_checksum yX5_checksum, Cond.code yX5_checksum cX5_checksum 4 (some .long), Cond.constantLong RX5 122 (7), Cond.constantLong RX5 124 (31)]
def wsL_law0 : List Cond := (wsL_law0_r1 ++ (wsL_law0_r2 ++ (wsL_law0_r3 ++ (wsL_law0_r4 ++ (wsL_law0_r5 ++ (wsL_law0_r6 ++ (wsL_law0_r7 ++ (wsL_law0_r8 ++ (wsL_law0_r9 ++ (wsL_law0_r10 ++ (wsL_law0_r11 ++ (wsL_law0_r12 ++ (wsL_law0_r13 ++ (wsL_law0_r14 ++ (wsL_law0_r15 ++ (wsL_law0_r16 ++ (wsL_law0_r17 ++ (wsL_law0_r18 ++ (wsL_law0_r19 ++ (wsL_law0_r20 ++ (wsL_law0_r21 ++ (wsL_law0_r22 ++ (wsL_law0_r23 ++ (wsL_law0_r24 ++ (wsL_law0_r25 ++ wsL_law0_r26))))))))))))))))))))))))) ++ wsX40 ++ wsX50 ++ wsX00 ++ wsX10 ++ wsX30 ++ wsX20 ++ ([] : List Cond)
def wsL_law : List Cond := wsL_law0 ++ (vx_atS RX4 80 "java/lang/IllegalArgumentException" ["java/lang/RuntimeException", "java/lang/Exception"]).filter goodWord ++ (vx_atS RX4 146 "java/util/NoSuchElementException" ["java/lang/RuntimeException", "java/lang/Exception"]).filter goodWord ++ (vx_atS RX4 169 "java/lang/IndexOutOfBoundsException" ["java/lang/RuntimeException", "java/lang/Exception"]).filter goodWord ++ (vx_atS RX4 131 "java/lang/IllegalStateException" ["java/lang/RuntimeException", "java/lang/Exception"]).filter goodWord
abbrev vwCl : List vw_C := [(RX0, TX0, 4), (RX1, TX1, 3), (RX2, TX2, 3), (RX3, TX3, 4), (RX4, TX4, 4), (RX5, TX5, 19)]
end
section
set_option maxRecDepth 20000 in
theorem ggX0_init_X2_init : GoodIn wsX0_init wsX2_init := goodIn_r _ [13, 14, 2, 3, 15, 16, 17, 18, 19, 20, 21] (by decide +kernel) (by decide +kernel)
set_option maxRecDepth 20000 in
theorem gX0_init_X2_init : GoodIn wsX0_init (wsX2_init) := ggX0_init_X2_init
theorem dX0_init_0 : decode cX0_init 0 = .ok (.aload_n 0, 1) := by decide +kernel
theorem dX0_init_1 : decode cX0_init 1 = .ok (.invokespecial 3, 3) := by decide +kernel
theorem dX0_init_4 : decode cX0_init 4 = .ok (.aload_n 0, 1) := by decide +kernel
theorem dX0_init_5 : decode cX0_init 5 = .ok (.new 9, 3) := by decide +kernel
theorem dX0_init_8 : decode cX0_init 8 = .ok (.dup, 1) := by decide +kernel
theorem dX0_init_9 : decode cX0_init 9 = .ok (.invokespecial 11, 3) := by decide +kernel
theorem dX0_init_12 : decode cX0_init 12 = .ok (.putfield 12, 3) := by decide +kernel
theorem dX0_init_15 : decode cX0_init 15 = .ok (.aload_n 0, 1) := by decide +kernel
theorem dX0_init_16 : decode cX0_init 16 = .ok (.new 9, 3) := by decide +kernel
theorem dX0_init_19 : decode cX0_init 19 = .ok (.dup, 1) := by decide +kernel
theorem dX0_init_20 : decode cX0_init 20 = .ok (.invokespecial 11, 3) := by decide +kernel
theorem dX0_init_23 : decode cX0_init 23 = .ok (.putfield 18, 3) := by decide +kernel
theorem dX0_init_26 : decode cX0_init 26 = .ok (.aload_n 0, 1) := by decide +kernel
theorem dX0_init_27 : decode cX0_init 27 = .ok (.bipush 8, 2) := by decide +kernel
theorem dX0_init_29 : decode cX0_init 29 = .ok (.putfield 21, 3) := by decide +kernel
theorem dX0_init_32 : decode cX0_init 32 = .ok (.aload_n 0, 1) := by decide +kernel
theorem dX0_init_33 : decode cX0_init 33 = .ok (.bipush 99, 2) := by decide +kernel
theorem dX0_init_35 : decode cX0_init 35 = .ok (.putfield 25, 3) := by decide +kernel
theorem dX0_init_38 : decode cX0_init 38 = .ok (.return_, 1) := by decide +kernel
theorem dX0_row_0 : decode cX0_row 0 = .ok (.iload_n 1, 1) := by decide +kernel
theorem dX0_row_1 : decode cX0_row 1 = .ok (.bipush 97, 2) := by decide +kernel
theorem dX0_row_3 : decode cX0_row 3 = .ok (.if_icmp .ne 10, 3) := by decide +kernel
theorem dX0_row_6 : decode cX0_row 6 = .ok (.aload_n 0, 1) := by decide +kernel
theorem dX0_row_7 : decode cX0_row 7 = .ok (.getfield 18, 3) := by decide +kernel
theorem dX0_row_10 : decode cX0_row 10 = .ok (.goto 7, 3) := by decide +kernel
theorem dX0_row_13 : decode cX0_row 13 = .ok (.aload_n 0, 1) := by decide +kernel
theorem dX0_row_14 : decode cX0_row 14 = .ok (.getfield 12, 3) := by decide +kernel
theorem dX0_row_17 : decode cX0_row 17 = .ok (.areturn, 1) := by decide +kernel
set_option maxRecDepth 20000 in
theorem ggX0_holds_X2_find : GoodIn wsX0_holds wsX2_find := goodIn_r _ [6, 7, 8, 9, 10, 5, 11, 12, 13, 14, 15, 16, 21, 22, 23] (by decide +kernel) (by decide +kernel)
set_option maxRecDepth 20000 in
theorem gX0_holds_X2_find : GoodIn wsX0_holds (wsV RX0 29 RX2 yX2_find wsX2_find) := goodIn_app (goodIn_of _ (by decide +kernel)) ggX0_holds_X2_find
theorem dX0_holds_0 : decode cX0_holds 0 = .ok (.aload_n 0, 1) := by decide +kernel
theorem dX0_holds_1 : decode cX0_holds 1 = .ok (.getfield 12, 3) := by decide +kernel
theorem dX0_holds_4 : decode cX0_holds 4 = .ok (.iload_n 1, 1) := by decide +kernel
theorem dX0_holds_5 : decode cX0_holds 5 = .ok (.invokevirtual 29, 3) := by decide +kernel
theorem dX0_holds_8 : decode cX0_holds 8 = .ok (.iconst (-1), 1) := by decide +kernel
theorem dX0_holds_9 : decode cX0_holds 9 = .ok (.if_icmp .eq 7, 3) := by decide +kernel
theorem dX0_holds_12 : decode cX0_holds 12 = .ok (.iconst 1, 1) := by decide +kernel
theorem dX0_holds_13 : decode cX0_holds 13 = .ok (.goto 4, 3) := by decide +kernel
theorem dX0_holds_16 : decode cX0_holds 16 = .ok (.iconst 0, 1) := by decide +kernel
theorem dX0_holds_17 : decode cX0_holds 17 = .ok (.ireturn, 1) := by decide +kernel
set_option maxRecDepth 20000 in
theorem ggX0_valueOf_X2_find : GoodIn wsX0_valueOf wsX2_find := goodIn_r _ [6, 7, 8, 9, 10, 5, 11, 12, 13, 14, 15, 16, 26, 27, 28] (by decide +kernel) (by decide +kernel)
set_option maxRecDepth 20000 in
theorem gX0_valueOf_X2_find : GoodIn wsX0_valueOf (wsV RX0 29 RX2 yX2_find wsX2_find) := goodIn_app (goodIn_of _ (by decide +kernel)) ggX0_valueOf_X2_find
set_option maxRecDepth 20000 in
theorem ggX0_valueOf_X2_valueIn : GoodIn wsX0_valueOf wsX2_valueIn := goodIn_r _ [20, 21, 13, 14, 15, 5, 16, 7, 12, 26, 27, 28] (by decide +kernel) (by decide +kernel)
set_option maxRecDepth 20000 in
theorem gX0_valueOf_X2_valueIn : GoodIn wsX0_valueOf (wsV RX0 33 RX2 yX2_valueIn wsX2_valueIn) := goodIn_app (goodIn_of _ (by decide +kernel)) ggX0_valueOf_X2_valueIn
theorem dX0_valueOf_0 : decode cX0_valueOf 0 = .ok (.aload_n 0, 1) := by decide +kernel
theorem dX0_valueOf_1 : decode cX0_valueOf 1 = .ok (.getfield 12, 3) := by decide +kernel
theorem dX0_valueOf_4 : decode cX0_valueOf 4 = .ok (.aload_n 0, 1) := by decide +kernel
theorem dX0_valueOf_5 : decode cX0_valueOf 5 = .ok (.getfield 12, 3) := by decide +kernel
theorem dX0_valueOf_8 : decode cX0_valueOf 8 = .ok (.iload_n 1, 1) := by decide +kernel
theorem dX0_valueOf_9 : decode cX0_valueOf 9 = .ok (.invokevirtual 29, 3) := by decide +kernel
theorem dX0_valueOf_12 : decode cX0_valueOf 12 = .ok (.invokevirtual 33, 3) := by decide +kernel
theorem dX0_valueOf_15 : decode cX0_valueOf 15 = .ok (.ireturn, 1) := by decide +kernel
set_option maxRecDepth 20000 in
theorem ggX0_giveKey_X2_find : GoodIn wsX0_giveKey wsX2_find := goodIn_r _ [7, 8, 9, 10, 11, 6, 12, 13, 14, 15, 16, 17, 27, 28, 29] (by decide +kernel) (by decide +kernel)
set_option maxRecDepth 20000 in
theorem gX0_giveKey_X2_find : GoodIn wsX0_giveKey (wsV RX0 29 RX2 yX2_find wsX2_find) := goodIn_app (goodIn_of _ (by decide +kernel)) ggX0_giveKey_X2_find
set_option maxRecDepth 20000 in
theorem ggX0_giveKey_X2_give : GoodIn wsX0_giveKey wsX2_give := goodIn_r _ [21, 22, 14, 15, 16, 6, 17, 8, 13, 27, 28, 29] (by decide +kernel) (by decide +kernel)
set_option maxRecDepth 20000 in
theorem gX0_giveKey_X2_give : GoodIn wsX0_giveKey (wsV RX0 36 RX2 yX2_give wsX2_give) := goodIn_app (goodIn_of _ (by decide +kernel)) ggX0_giveKey_X2_give
theorem dX0_giveKey_0 : decode cX0_giveKey 0 = .ok (.aload_n 0, 1) := by decide +kernel
theorem dX0_giveKey_1 : decode cX0_giveKey 1 = .ok (.getfield 12, 3) := by decide +kernel
theorem dX0_giveKey_4 : decode cX0_giveKey 4 = .ok (.aload_n 0, 1) := by decide +kernel
theorem dX0_giveKey_5 : decode cX0_giveKey 5 = .ok (.getfield 12, 3) := by decide +kernel
theorem dX0_giveKey_8 : decode cX0_giveKey 8 = .ok (.iload_n 1, 1) := by decide +kernel
theorem dX0_giveKey_9 : decode cX0_giveKey 9 = .ok (.invokevirtual 29, 3) := by decide +kernel
theorem dX0_giveKey_12 : decode cX0_giveKey 12 = .ok (.iload_n 2, 1) := by decide +kernel
theorem dX0_giveKey_13 : decode cX0_giveKey 13 = .ok (.invokevirtual 36, 3) := by decide +kernel
theorem dX0_giveKey_16 : decode cX0_giveKey 16 = .ok (.aload_n 0, 1) := by decide +kernel
theorem dX0_giveKey_17 : decode cX0_giveKey 17 = .ok (.getfield 18, 3) := by decide +kernel
theorem dX0_giveKey_20 : decode cX0_giveKey 20 = .ok (.aload_n 0, 1) := by decide +kernel
theorem dX0_giveKey_21 : decode cX0_giveKey 21 = .ok (.getfield 18, 3) := by decide +kernel
theorem dX0_giveKey_24 : decode cX0_giveKey 24 = .ok (.iload_n 1, 1) := by decide +kernel
theorem dX0_giveKey_25 : decode cX0_giveKey 25 = .ok (.invokevirtual 29, 3) := by decide +kernel
theorem dX0_giveKey_28 : decode cX0_giveKey 28 = .ok (.iload_n 2, 1) := by decide +kernel
theorem dX0_giveKey_29 : decode cX0_giveKey 29 = .ok (.invokevirtual 36, 3) := by decide +kernel
theorem dX0_giveKey_32 : decode cX0_giveKey 32 = .ok (.return_, 1) := by decide +kernel
set_option maxRecDepth 20000 in
theorem ggX0_touch_X2_find : GoodIn wsX0_touch wsX2_find := goodIn_r _ [6, 7, 8, 9, 10, 5, 11, 12, 13, 14, 15, 16, 34, 35, 36] (by decide +kernel) (by decide +kernel)
set_option maxRecDepth 20000 in
theorem gX0_touch_X2_find : GoodIn wsX0_touch (wsV RX0 29 RX2 yX2_find wsX2_find) := goodIn_app (goodIn_of _ (by decide +kernel)) ggX0_touch_X2_find
set_option maxRecDepth 20000 in
theorem ggX0_touch_X2_putLast : GoodIn wsX0_touch wsX2_putLast := goodIn_r _ [20, 12, 21, 13, 14, 15, 5, 16, 7, 22, 23, 24, 25, 26, 27, 28, 29, 34, 35, 36] (by decide +kernel) (by decide +kernel)
set_option maxRecDepth 20000 in
theorem gX0_touch_X2_putLast : GoodIn wsX0_touch (wsV RX0 40 RX2 yX2_putLast wsX2_putLast) := goodIn_app (goodIn_of _ (by decide +kernel)) ggX0_touch_X2_putLast
theorem dX0_touch_0 : decode cX0_touch 0 = .ok (.aload_n 0, 1) := by decide +kernel
theorem dX0_touch_1 : decode cX0_touch 1 = .ok (.getfield 18, 3) := by decide +kernel
theorem dX0_touch_4 : decode cX0_touch 4 = .ok (.aload_n 0, 1) := by decide +kernel
theorem dX0_touch_5 : decode cX0_touch 5 = .ok (.getfield 18, 3) := by decide +kernel
theorem dX0_touch_8 : decode cX0_touch 8 = .ok (.iload_n 1, 1) := by decide +kernel
theorem dX0_touch_9 : decode cX0_touch 9 = .ok (.invokevirtual 29, 3) := by decide +kernel
theorem dX0_touch_12 : decode cX0_touch 12 = .ok (.invokevirtual 40, 3) := by decide +kernel
theorem dX0_touch_15 : decode cX0_touch 15 = .ok (.return_, 1) := by decide +kernel
set_option maxRecDepth 20000 in
theorem ggX0_takeOut_X2_find : GoodIn wsX0_takeOut wsX2_find := goodIn_r _ [7, 8, 9, 10, 11, 6, 12, 13, 14, 15, 16, 17, 27, 28, 29] (by decide +kernel) (by decide +kernel)
set_option maxRecDepth 20000 in
theorem gX0_takeOut_X2_find : GoodIn wsX0_takeOut (wsV RX0 29 RX2 yX2_find wsX2_find) := goodIn_app (goodIn_of _ (by decide +kernel)) ggX0_takeOut_X2_find
set_option maxRecDepth 20000 in
theorem ggX0_takeOut_X2_close : GoodIn wsX0_takeOut wsX2_close := goodIn_r _ [21, 8, 13, 22, 14, 15, 16, 6, 17, 27, 28, 29] (by decide +kernel) (by decide +kernel)
set_option maxRecDepth 20000 in
theorem gX0_takeOut_X2_close : GoodIn wsX0_takeOut (wsV RX0 44 RX2 yX2_close wsX2_close) := goodIn_app (goodIn_of _ (by decide +kernel)) ggX0_takeOut_X2_close
theorem dX0_takeOut_0 : decode cX0_takeOut 0 = .ok (.aload_n 0, 1) := by decide +kernel
theorem dX0_takeOut_1 : decode cX0_takeOut 1 = .ok (.getfield 12, 3) := by decide +kernel
theorem dX0_takeOut_4 : decode cX0_takeOut 4 = .ok (.aload_n 0, 1) := by decide +kernel
theorem dX0_takeOut_5 : decode cX0_takeOut 5 = .ok (.getfield 12, 3) := by decide +kernel
theorem dX0_takeOut_8 : decode cX0_takeOut 8 = .ok (.iload_n 1, 1) := by decide +kernel
theorem dX0_takeOut_9 : decode cX0_takeOut 9 = .ok (.invokevirtual 29, 3) := by decide +kernel
theorem dX0_takeOut_12 : decode cX0_takeOut 12 = .ok (.invokevirtual 44, 3) := by decide +kernel
theorem dX0_takeOut_15 : decode cX0_takeOut 15 = .ok (.aload_n 0, 1) := by decide +kernel
theorem dX0_takeOut_16 : decode cX0_takeOut 16 = .ok (.getfield 18, 3) := by decide +kernel
theorem dX0_takeOut_19 : decode cX0_takeOut 19 = .ok (.aload_n 0, 1) := by decide +kernel
theorem dX0_takeOut_20 : decode cX0_takeOut 20 = .ok (.getfield 18, 3) := by decide +kernel
theorem dX0_takeOut_23 : decode cX0_takeOut 23 = .ok (.iload_n 1, 1) := by decide +kernel
theorem dX0_takeOut_24 : decode cX0_takeOut 24 = .ok (.invokevirtual 29, 3) := by decide +kernel
theorem dX0_takeOut_27 : decode cX0_takeOut 27 = .ok (.invokevirtual 44, 3) := by decide +kernel
theorem dX0_takeOut_30 : decode cX0_takeOut 30 = .ok (.return_, 1) := by decide +kernel
set_option maxRecDepth 20000 in
theorem ggX0_letIn_X2_count : GoodIn wsX0_letIn wsX2_count := goodIn_r _ [8, 9, 51, 52, 53] (by decide +kernel) (by decide +kernel)
set_option maxRecDepth 20000 in
theorem gX0_letIn_X2_count : GoodIn wsX0_letIn (wsV RX0 47 RX2 yX2_count wsX2_count) := goodIn_app (goodIn_of _ (by decide +kernel)) ggX0_letIn_X2_count
set_option maxRecDepth 20000 in
theorem ggX0_letIn_X0_dropEldest : GoodIn wsX0_letIn wsX0_dropEldest := goodIn_r _ [14, 15, 16, 17, 18, 13, 19, 3, 1, 20, 21, 22, 7, 23, 24, 25, 26, 27, 28, 9, 29, 30, 31, 32, 33, 34, 35, 36, 37, 38, 39, 40, 41, 42, 47, 48, 49, 50, 51, 52, 53] (by decide +kernel) (by decide +kernel)
set_option maxRecDepth 20000 in
theorem gX0_letIn_X0_dropEldest : GoodIn wsX0_letIn (wsV RX0 51 RX0 yX0_dropEldest wsX0_dropEldest) := goodIn_app (goodIn_of _ (by decide +kernel)) ggX0_letIn_X0_dropEldest
set_option maxRecDepth 20000 in
theorem ggX0_letIn_X2_append : GoodIn wsX0_letIn wsX2_append := goodIn_r _ [46, 9, 24, 42, 51, 52, 53] (by decide +kernel) (by decide +kernel)
set_option maxRecDepth 20000 in
theorem gX0_letIn_X2_append : GoodIn wsX0_letIn (wsV RX0 54 RX2 yX2_append wsX2_append) := goodIn_app (goodIn_of _ (by decide +kernel)) ggX0_letIn_X2_append
theorem dX0_letIn_0 : decode cX0_letIn 0 = .ok (.aload_n 0, 1) := by decide +kernel
theorem dX0_letIn_1 : decode cX0_letIn 1 = .ok (.getfield 12, 3) := by decide +kernel
theorem dX0_letIn_4 : decode cX0_letIn 4 = .ok (.invokevirtual 47, 3) := by decide +kernel
theorem dX0_letIn_7 : decode cX0_letIn 7 = .ok (.aload_n 0, 1) := by decide +kernel
theorem dX0_letIn_8 : decode cX0_letIn 8 = .ok (.getfield 21, 3) := by decide +kernel
theorem dX0_letIn_11 : decode cX0_letIn 11 = .ok (.if_icmp .ge 7, 3) := by decide +kernel
theorem dX0_letIn_14 : decode cX0_letIn 14 = .ok (.iconst (-1), 1) := by decide +kernel
theorem dX0_letIn_15 : decode cX0_letIn 15 = .ok (.goto 7, 3) := by decide +kernel
theorem dX0_letIn_18 : decode cX0_letIn 18 = .ok (.aload_n 0, 1) := by decide +kernel
theorem dX0_letIn_19 : decode cX0_letIn 19 = .ok (.invokevirtual 51, 3) := by decide +kernel
theorem dX0_letIn_22 : decode cX0_letIn 22 = .ok (.istore_n 3, 1) := by decide +kernel
theorem dX0_letIn_23 : decode cX0_letIn 23 = .ok (.aload_n 0, 1) := by decide +kernel
theorem dX0_letIn_24 : decode cX0_letIn 24 = .ok (.getfield 12, 3) := by decide +kernel
theorem dX0_letIn_27 : decode cX0_letIn 27 = .ok (.iload_n 1, 1) := by decide +kernel
theorem dX0_letIn_28 : decode cX0_letIn 28 = .ok (.iload_n 2, 1) := by decide +kernel
theorem dX0_letIn_29 : decode cX0_letIn 29 = .ok (.invokevirtual 54, 3) := by decide +kernel
theorem dX0_letIn_32 : decode cX0_letIn 32 = .ok (.aload_n 0, 1) := by decide +kernel
theorem dX0_letIn_33 : decode cX0_letIn 33 = .ok (.getfield 18, 3) := by decide +kernel
theorem dX0_letIn_36 : decode cX0_letIn 36 = .ok (.iload_n 1, 1) := by decide +kernel
theorem dX0_letIn_37 : decode cX0_letIn 37 = .ok (.iload_n 2, 1) := by decide +kernel
theorem dX0_letIn_38 : decode cX0_letIn 38 = .ok (.invokevirtual 54, 3) := by decide +kernel
theorem dX0_letIn_41 : decode cX0_letIn 41 = .ok (.iload_n 3, 1) := by decide +kernel
theorem dX0_letIn_42 : decode cX0_letIn 42 = .ok (.ireturn, 1) := by decide +kernel
set_option maxRecDepth 20000 in
theorem ggX0_dropWhatIsOver_X2_count : GoodIn wsX0_dropWhatIsOver wsX2_count := goodIn_r _ [11, 12, 51, 52, 53] (by decide +kernel) (by decide +kernel)
set_option maxRecDepth 20000 in
theorem gX0_dropWhatIsOver_X2_count : GoodIn wsX0_dropWhatIsOver (wsV RX0 47 RX2 yX2_count wsX2_count) := goodIn_app (goodIn_of _ (by decide +kernel)) ggX0_dropWhatIsOver_X2_count
set_option maxRecDepth 20000 in
theorem ggX0_dropWhatIsOver_X0_dropEldest : GoodIn wsX0_dropWhatIsOver wsX0_dropEldest := goodIn_r _ [17, 18, 19, 20, 21, 16, 22, 23, 1, 24, 25, 26, 10, 27, 28, 29, 30, 31, 32, 12, 33, 34, 35, 36, 37, 38, 39, 40, 41, 42, 43, 44, 45, 46, 47, 48, 49, 50, 51, 52, 53] (by decide +kernel) (by decide +kernel)
set_option maxRecDepth 20000 in
theorem gX0_dropWhatIsOver_X0_dropEldest : GoodIn wsX0_dropWhatIsOver (wsV RX0 51 RX0 yX0_dropEldest wsX0_dropEldest) := goodIn_app (goodIn_of _ (by decide +kernel)) ggX0_dropWhatIsOver_X0_dropEldest
theorem dX0_dropWhatIsOver_0 : decode cX0_dropWhatIsOver 0 = .ok (.aload_n 0, 1) := by decide +kernel
theorem dX0_dropWhatIsOver_1 : decode cX0_dropWhatIsOver 1 = .ok (.getfield 12, 3) := by decide +kernel
theorem dX0_dropWhatIsOver_4 : decode cX0_dropWhatIsOver 4 = .ok (.invokevirtual 47, 3) := by decide +kernel
theorem dX0_dropWhatIsOver_7 : decode cX0_dropWhatIsOver 7 = .ok (.aload_n 0, 1) := by decide +kernel
theorem dX0_dropWhatIsOver_8 : decode cX0_dropWhatIsOver 8 = .ok (.getfield 21, 3) := by decide +kernel
theorem dX0_dropWhatIsOver_11 : decode cX0_dropWhatIsOver 11 = .ok (.isub, 1) := by decide +kernel
theorem dX0_dropWhatIsOver_12 : decode cX0_dropWhatIsOver 12 = .ok (.iconst 0, 1) := by decide +kernel
theorem dX0_dropWhatIsOver_13 : decode cX0_dropWhatIsOver 13 = .ok (.invokestatic 57, 3) := by decide +kernel
theorem dX0_dropWhatIsOver_16 : decode cX0_dropWhatIsOver 16 = .ok (.istore_n 1, 1) := by decide +kernel
theorem dX0_dropWhatIsOver_17 : decode cX0_dropWhatIsOver 17 = .ok (.iconst 0, 1) := by decide +kernel
theorem dX0_dropWhatIsOver_18 : decode cX0_dropWhatIsOver 18 = .ok (.istore_n 2, 1) := by decide +kernel
theorem dX0_dropWhatIsOver_19 : decode cX0_dropWhatIsOver 19 = .ok (.iload_n 2, 1) := by decide +kernel
theorem dX0_dropWhatIsOver_20 : decode cX0_dropWhatIsOver 20 = .ok (.iload_n 1, 1) := by decide +kernel
theorem dX0_dropWhatIsOver_21 : decode cX0_dropWhatIsOver 21 = .ok (.if_icmp .ge 14, 3) := by decide +kernel
theorem dX0_dropWhatIsOver_24 : decode cX0_dropWhatIsOver 24 = .ok (.aload_n 0, 1) := by decide +kernel
theorem dX0_dropWhatIsOver_25 : decode cX0_dropWhatIsOver 25 = .ok (.invokevirtual 51, 3) := by decide +kernel
theorem dX0_dropWhatIsOver_28 : decode cX0_dropWhatIsOver 28 = .ok (.pop, 1) := by decide +kernel
theorem dX0_dropWhatIsOver_29 : decode cX0_dropWhatIsOver 29 = .ok (.iinc 2 1, 3) := by decide +kernel
theorem dX0_dropWhatIsOver_32 : decode cX0_dropWhatIsOver 32 = .ok (.goto (-13), 3) := by decide +kernel
theorem dX0_dropWhatIsOver_35 : decode cX0_dropWhatIsOver 35 = .ok (.iload_n 1, 1) := by decide +kernel
theorem dX0_dropWhatIsOver_36 : decode cX0_dropWhatIsOver 36 = .ok (.ireturn, 1) := by decide +kernel
set_option maxRecDepth 20000 in
theorem ggX0_dropEldest_X0_row : GoodIn wsX0_dropEldest wsX0_row := goodIn_r _ [6, 7, 8, 34, 35, 36, 37] (by decide +kernel) (by decide +kernel)
set_option maxRecDepth 20000 in
theorem gX0_dropEldest_X0_row : GoodIn wsX0_dropEldest (wsV RX0 63 RX0 yX0_row wsX0_row) := goodIn_app (goodIn_of _ (by decide +kernel)) ggX0_dropEldest_X0_row
set_option maxRecDepth 20000 in
theorem ggX0_dropEldest_X2_keyIn : GoodIn wsX0_dropEldest wsX2_keyIn := goodIn_r _ [13, 14, 15, 16, 17, 12, 18, 19, 38, 39, 40] (by decide +kernel) (by decide +kernel)
set_option maxRecDepth 20000 in
theorem gX0_dropEldest_X2_keyIn : GoodIn wsX0_dropEldest (wsV RX0 67 RX2 yX2_keyIn wsX2_keyIn) := goodIn_app (goodIn_of _ (by decide +kernel)) ggX0_dropEldest_X2_keyIn
set_option maxRecDepth 20000 in
theorem ggX0_dropEldest_X0_takeOut : GoodIn wsX0_dropEldest wsX0_takeOut := goodIn_r _ [23, 8, 7, 24, 25, 26, 12, 27, 19, 28, 10, 11, 13, 14, 15, 16, 17, 18, 29, 30, 31, 32, 33, 34, 35, 36, 37, 38, 39, 40] (by decide +kernel) (by decide +kernel)
set_option maxRecDepth 20000 in
theorem gX0_dropEldest_X0_takeOut : GoodIn wsX0_dropEldest (wsV RX0 70 RX0 yX0_takeOut wsX0_takeOut) := goodIn_app (goodIn_of _ (by decide +kernel)) ggX0_dropEldest_X0_takeOut
theorem dX0_dropEldest_0 : decode cX0_dropEldest 0 = .ok (.aload_n 0, 1) := by decide +kernel
theorem dX0_dropEldest_1 : decode cX0_dropEldest 1 = .ok (.aload_n 0, 1) := by decide +kernel
theorem dX0_dropEldest_2 : decode cX0_dropEldest 2 = .ok (.getfield 25, 3) := by decide +kernel
theorem dX0_dropEldest_5 : decode cX0_dropEldest 5 = .ok (.invokevirtual 63, 3) := by decide +kernel
theorem dX0_dropEldest_8 : decode cX0_dropEldest 8 = .ok (.iconst 0, 1) := by decide +kernel
theorem dX0_dropEldest_9 : decode cX0_dropEldest 9 = .ok (.invokevirtual 67, 3) := by decide +kernel
theorem dX0_dropEldest_12 : decode cX0_dropEldest 12 = .ok (.istore_n 1, 1) := by decide +kernel
theorem dX0_dropEldest_13 : decode cX0_dropEldest 13 = .ok (.aload_n 0, 1) := by decide +kernel
theorem dX0_dropEldest_14 : decode cX0_dropEldest 14 = .ok (.iload_n 1, 1) := by decide +kernel
theorem dX0_dropEldest_15 : decode cX0_dropEldest 15 = .ok (.invokevirtual 70, 3) := by decide +kernel
theorem dX0_dropEldest_18 : decode cX0_dropEldest 18 = .ok (.iload_n 1, 1) := by decide +kernel
theorem dX0_dropEldest_19 : decode cX0_dropEldest 19 = .ok (.ireturn, 1) := by decide +kernel
set_option maxRecDepth 20000 in
theorem ggX0_takeOutEach_X2_count : GoodIn wsX0_takeOutEach wsX2_count := goodIn_r _ [6, 7, 41, 42, 43] (by decide +kernel) (by decide +kernel)
set_option maxRecDepth 20000 in
theorem gX0_takeOutEach_X2_count : GoodIn wsX0_takeOutEach (wsV RX0 47 RX2 yX2_count wsX2_count) := goodIn_app (goodIn_of _ (by decide +kernel)) ggX0_takeOutEach_X2_count
set_option maxRecDepth 20000 in
theorem ggX0_takeOutEach_X0_row : GoodIn wsX0_takeOutEach wsX0_row := goodIn_r _ [12, 13, 1, 37, 38, 39, 40] (by decide +kernel) (by decide +kernel)
set_option maxRecDepth 20000 in
theorem gX0_takeOutEach_X0_row : GoodIn wsX0_takeOutEach (wsV RX0 63 RX0 yX0_row wsX0_row) := goodIn_app (goodIn_of _ (by decide +kernel)) ggX0_takeOutEach_X0_row
set_option maxRecDepth 20000 in
theorem ggX0_takeOutEach_X2_keyIn : GoodIn wsX0_takeOutEach wsX2_keyIn := goodIn_r _ [17, 18, 19, 20, 21, 5, 22, 7, 41, 42, 43] (by decide +kernel) (by decide +kernel)
set_option maxRecDepth 20000 in
theorem gX0_takeOutEach_X2_keyIn : GoodIn wsX0_takeOutEach (wsV RX0 67 RX2 yX2_keyIn wsX2_keyIn) := goodIn_app (goodIn_of _ (by decide +kernel)) ggX0_takeOutEach_X2_keyIn
set_option maxRecDepth 20000 in
theorem ggX0_takeOutEach_X0_takeOut : GoodIn wsX0_takeOutEach wsX0_takeOut := goodIn_r _ [26, 1, 13, 27, 28, 29, 5, 30, 7, 31, 15, 16, 17, 18, 19, 20, 21, 22, 32, 33, 34, 35, 36, 37, 38, 39, 40, 41, 42, 43] (by decide +kernel) (by decide +kernel)
set_option maxRecDepth 20000 in
theorem gX0_takeOutEach_X0_takeOut : GoodIn wsX0_takeOutEach (wsV RX0 70 RX0 yX0_takeOut wsX0_takeOut) := goodIn_app (goodIn_of _ (by decide +kernel)) ggX0_takeOutEach_X0_takeOut
theorem dX0_takeOutEach_0 : decode cX0_takeOutEach 0 = .ok (.iload_n 2, 1) := by decide +kernel
theorem dX0_takeOutEach_1 : decode cX0_takeOutEach 1 = .ok (.iconst 1, 1) := by decide +kernel
theorem dX0_takeOutEach_2 : decode cX0_takeOutEach 2 = .ok (.if_icmp .ge 5, 3) := by decide +kernel
theorem dX0_takeOutEach_5 : decode cX0_takeOutEach 5 = .ok (.iconst 0, 1) := by decide +kernel
theorem dX0_takeOutEach_6 : decode cX0_takeOutEach 6 = .ok (.ireturn, 1) := by decide +kernel
theorem dX0_takeOutEach_7 : decode cX0_takeOutEach 7 = .ok (.aload_n 0, 1) := by decide +kernel
theorem dX0_takeOutEach_8 : decode cX0_takeOutEach 8 = .ok (.getfield 12, 3) := by decide +kernel
theorem dX0_takeOutEach_11 : decode cX0_takeOutEach 11 = .ok (.invokevirtual 47, 3) := by decide +kernel
theorem dX0_takeOutEach_14 : decode cX0_takeOutEach 14 = .ok (.iload_n 2, 1) := by decide +kernel
theorem dX0_takeOutEach_15 : decode cX0_takeOutEach 15 = .ok (.idiv, 1) := by decide +kernel
theorem dX0_takeOutEach_16 : decode cX0_takeOutEach 16 = .ok (.istore_n 3, 1) := by decide +kernel
theorem dX0_takeOutEach_17 : decode cX0_takeOutEach 17 = .ok (.iload_n 3, 1) := by decide +kernel
theorem dX0_takeOutEach_18 : decode cX0_takeOutEach 18 = .ok (.istore 4, 2) := by decide +kernel
theorem dX0_takeOutEach_20 : decode cX0_takeOutEach 20 = .ok (.iload 4, 2) := by decide +kernel
theorem dX0_takeOutEach_22 : decode cX0_takeOutEach 22 = .ok (.iconst 1, 1) := by decide +kernel
theorem dX0_takeOutEach_23 : decode cX0_takeOutEach 23 = .ok (.if_icmp .lt 27, 3) := by decide +kernel
theorem dX0_takeOutEach_26 : decode cX0_takeOutEach 26 = .ok (.aload_n 0, 1) := by decide +kernel
theorem dX0_takeOutEach_27 : decode cX0_takeOutEach 27 = .ok (.aload_n 0, 1) := by decide +kernel
theorem dX0_takeOutEach_28 : decode cX0_takeOutEach 28 = .ok (.iload_n 1, 1) := by decide +kernel
theorem dX0_takeOutEach_29 : decode cX0_takeOutEach 29 = .ok (.invokevirtual 63, 3) := by decide +kernel
theorem dX0_takeOutEach_32 : decode cX0_takeOutEach 32 = .ok (.iload 4, 2) := by decide +kernel
theorem dX0_takeOutEach_34 : decode cX0_takeOutEach 34 = .ok (.iload_n 2, 1) := by decide +kernel
theorem dX0_takeOutEach_35 : decode cX0_takeOutEach 35 = .ok (.imul, 1) := by decide +kernel
theorem dX0_takeOutEach_36 : decode cX0_takeOutEach 36 = .ok (.iconst 1, 1) := by decide +kernel
theorem dX0_takeOutEach_37 : decode cX0_takeOutEach 37 = .ok (.isub, 1) := by decide +kernel
theorem dX0_takeOutEach_38 : decode cX0_takeOutEach 38 = .ok (.invokevirtual 67, 3) := by decide +kernel
theorem dX0_takeOutEach_41 : decode cX0_takeOutEach 41 = .ok (.invokevirtual 70, 3) := by decide +kernel
theorem dX0_takeOutEach_44 : decode cX0_takeOutEach 44 = .ok (.iinc 4 (-1), 3) := by decide +kernel
theorem dX0_takeOutEach_47 : decode cX0_takeOutEach 47 = .ok (.goto (-27), 3) := by decide +kernel
theorem dX0_takeOutEach_50 : decode cX0_takeOutEach 50 = .ok (.iload_n 3, 1) := by decide +kernel
theorem dX0_takeOutEach_51 : decode cX0_takeOutEach 51 = .ok (.ireturn, 1) := by decide +kernel
set_option maxRecDepth 20000 in
theorem ggX0_staying_X2_count : GoodIn wsX0_staying wsX2_count := goodIn_r _ [7, 8, 27, 28, 29] (by decide +kernel) (by decide +kernel)
set_option maxRecDepth 20000 in
theorem gX0_staying_X2_count : GoodIn wsX0_staying (wsV RX0 47 RX2 yX2_count wsX2_count) := goodIn_app (goodIn_of _ (by decide +kernel)) ggX0_staying_X2_count
set_option maxRecDepth 20000 in
theorem ggX0_staying_X2_keyIn : GoodIn wsX0_staying wsX2_keyIn := goodIn_r _ [12, 13, 14, 15, 16, 6, 17, 8, 27, 28, 29] (by decide +kernel) (by decide +kernel)
set_option maxRecDepth 20000 in
theorem gX0_staying_X2_keyIn : GoodIn wsX0_staying (wsV RX0 67 RX2 yX2_keyIn wsX2_keyIn) := goodIn_app (goodIn_of _ (by decide +kernel)) ggX0_staying_X2_keyIn
set_option maxRecDepth 20000 in
theorem ggX0_staying_X2_find : GoodIn wsX0_staying wsX2_find := goodIn_r _ [21, 8, 22, 10, 11, 6, 12, 13, 14, 15, 16, 17, 27, 28, 29] (by decide +kernel) (by decide +kernel)
set_option maxRecDepth 20000 in
theorem gX0_staying_X2_find : GoodIn wsX0_staying (wsV RX0 29 RX2 yX2_find wsX2_find) := goodIn_app (goodIn_of _ (by decide +kernel)) ggX0_staying_X2_find
theorem dX0_staying_0 : decode cX0_staying 0 = .ok (.iconst (-1), 1) := by decide +kernel
theorem dX0_staying_1 : decode cX0_staying 1 = .ok (.istore_n 1, 1) := by decide +kernel
theorem dX0_staying_2 : decode cX0_staying 2 = .ok (.iconst 0, 1) := by decide +kernel
theorem dX0_staying_3 : decode cX0_staying 3 = .ok (.istore_n 2, 1) := by decide +kernel
theorem dX0_staying_4 : decode cX0_staying 4 = .ok (.iload_n 2, 1) := by decide +kernel
theorem dX0_staying_5 : decode cX0_staying 5 = .ok (.aload_n 0, 1) := by decide +kernel
theorem dX0_staying_6 : decode cX0_staying 6 = .ok (.getfield 18, 3) := by decide +kernel
theorem dX0_staying_9 : decode cX0_staying 9 = .ok (.invokevirtual 47, 3) := by decide +kernel
theorem dX0_staying_12 : decode cX0_staying 12 = .ok (.if_icmp .ge 34, 3) := by decide +kernel
theorem dX0_staying_15 : decode cX0_staying 15 = .ok (.aload_n 0, 1) := by decide +kernel
theorem dX0_staying_16 : decode cX0_staying 16 = .ok (.getfield 12, 3) := by decide +kernel
theorem dX0_staying_19 : decode cX0_staying 19 = .ok (.aload_n 0, 1) := by decide +kernel
theorem dX0_staying_20 : decode cX0_staying 20 = .ok (.getfield 18, 3) := by decide +kernel
theorem dX0_staying_23 : decode cX0_staying 23 = .ok (.iload_n 2, 1) := by decide +kernel
theorem dX0_staying_24 : decode cX0_staying 24 = .ok (.invokevirtual 67, 3) := by decide +kernel
theorem dX0_staying_27 : decode cX0_staying 27 = .ok (.invokevirtual 29, 3) := by decide +kernel
theorem dX0_staying_30 : decode cX0_staying 30 = .ok (.istore_n 3, 1) := by decide +kernel
theorem dX0_staying_31 : decode cX0_staying 31 = .ok (.iload_n 3, 1) := by decide +kernel
theorem dX0_staying_32 : decode cX0_staying 32 = .ok (.iload_n 1, 1) := by decide +kernel
theorem dX0_staying_33 : decode cX0_staying 33 = .ok (.if_icmp .ge 5, 3) := by decide +kernel
theorem dX0_staying_36 : decode cX0_staying 36 = .ok (.iload_n 2, 1) := by decide +kernel
theorem dX0_staying_37 : decode cX0_staying 37 = .ok (.ireturn, 1) := by decide +kernel
theorem dX0_staying_38 : decode cX0_staying 38 = .ok (.iload_n 3, 1) := by decide +kernel
theorem dX0_staying_39 : decode cX0_staying 39 = .ok (.istore_n 1, 1) := by decide +kernel
theorem dX0_staying_40 : decode cX0_staying 40 = .ok (.iinc 2 1, 3) := by decide +kernel
theorem dX0_staying_43 : decode cX0_staying 43 = .ok (.goto (-39), 3) := by decide +kernel
theorem dX0_staying_46 : decode cX0_staying 46 = .ok (.aload_n 0, 1) := by decide +kernel
theorem dX0_staying_47 : decode cX0_staying 47 = .ok (.getfield 18, 3) := by decide +kernel
theorem dX0_staying_50 : decode cX0_staying 50 = .ok (.invokevirtual 47, 3) := by decide +kernel
theorem dX0_staying_53 : decode cX0_staying 53 = .ok (.ireturn, 1) := by decide +kernel
set_option maxRecDepth 20000 in
theorem ggX0_crossedPairs_X2_count : GoodIn wsX0_crossedPairs wsX2_count := goodIn_r _ [7, 8, 27, 28, 29] (by decide +kernel) (by decide +kernel)
set_option maxRecDepth 20000 in
theorem gX0_crossedPairs_X2_count : GoodIn wsX0_crossedPairs (wsV RX0 47 RX2 yX2_count wsX2_count) := goodIn_app (goodIn_of _ (by decide +kernel)) ggX0_crossedPairs_X2_count
set_option maxRecDepth 20000 in
theorem ggX0_crossedPairs_X2_keyIn : GoodIn wsX0_crossedPairs wsX2_keyIn := goodIn_r _ [12, 13, 14, 15, 16, 6, 17, 8, 27, 28, 29] (by decide +kernel) (by decide +kernel)
set_option maxRecDepth 20000 in
theorem gX0_crossedPairs_X2_keyIn : GoodIn wsX0_crossedPairs (wsV RX0 67 RX2 yX2_keyIn wsX2_keyIn) := goodIn_app (goodIn_of _ (by decide +kernel)) ggX0_crossedPairs_X2_keyIn
set_option maxRecDepth 20000 in
theorem ggX0_crossedPairs_X2_find : GoodIn wsX0_crossedPairs wsX2_find := goodIn_r _ [21, 8, 22, 10, 11, 6, 12, 13, 14, 15, 16, 17, 27, 28, 29] (by decide +kernel) (by decide +kernel)
set_option maxRecDepth 20000 in
theorem gX0_crossedPairs_X2_find : GoodIn wsX0_crossedPairs (wsV RX0 29 RX2 yX2_find wsX2_find) := goodIn_app (goodIn_of _ (by decide +kernel)) ggX0_crossedPairs_X2_find
theorem dX0_crossedPairs_0 : decode cX0_crossedPairs 0 = .ok (.iconst 0, 1) := by decide +kernel
theorem dX0_crossedPairs_1 : decode cX0_crossedPairs 1 = .ok (.istore_n 1, 1) := by decide +kernel
theorem dX0_crossedPairs_2 : decode cX0_crossedPairs 2 = .ok (.iconst 1, 1) := by decide +kernel
theorem dX0_crossedPairs_3 : decode cX0_crossedPairs 3 = .ok (.istore_n 2, 1) := by decide +kernel
theorem dX0_crossedPairs_4 : decode cX0_crossedPairs 4 = .ok (.iload_n 2, 1) := by decide +kernel
theorem dX0_crossedPairs_5 : decode cX0_crossedPairs 5 = .ok (.aload_n 0, 1) := by decide +kernel
theorem dX0_crossedPairs_6 : decode cX0_crossedPairs 6 = .ok (.getfield 18, 3) := by decide +kernel
theorem dX0_crossedPairs_9 : decode cX0_crossedPairs 9 = .ok (.invokevirtual 47, 3) := by decide +kernel
theorem dX0_crossedPairs_12 : decode cX0_crossedPairs 12 = .ok (.if_icmp .ge 63, 3) := by decide +kernel
theorem dX0_crossedPairs_15 : decode cX0_crossedPairs 15 = .ok (.aload_n 0, 1) := by decide +kernel
theorem dX0_crossedPairs_16 : decode cX0_crossedPairs 16 = .ok (.getfield 12, 3) := by decide +kernel
theorem dX0_crossedPairs_19 : decode cX0_crossedPairs 19 = .ok (.aload_n 0, 1) := by decide +kernel
theorem dX0_crossedPairs_20 : decode cX0_crossedPairs 20 = .ok (.getfield 18, 3) := by decide +kernel
theorem dX0_crossedPairs_23 : decode cX0_crossedPairs 23 = .ok (.iload_n 2, 1) := by decide +kernel
theorem dX0_crossedPairs_24 : decode cX0_crossedPairs 24 = .ok (.invokevirtual 67, 3) := by decide +kernel
theorem dX0_crossedPairs_27 : decode cX0_crossedPairs 27 = .ok (.invokevirtual 29, 3) := by decide +kernel
theorem dX0_crossedPairs_30 : decode cX0_crossedPairs 30 = .ok (.istore_n 3, 1) := by decide +kernel
theorem dX0_crossedPairs_31 : decode cX0_crossedPairs 31 = .ok (.iconst 0, 1) := by decide +kernel
theorem dX0_crossedPairs_32 : decode cX0_crossedPairs 32 = .ok (.istore 4, 2) := by decide +kernel
theorem dX0_crossedPairs_34 : decode cX0_crossedPairs 34 = .ok (.iload 4, 2) := by decide +kernel
theorem dX0_crossedPairs_36 : decode cX0_crossedPairs 36 = .ok (.iload_n 2, 1) := by decide +kernel
theorem dX0_crossedPairs_37 : decode cX0_crossedPairs 37 = .ok (.if_icmp .ge 32, 3) := by decide +kernel
theorem dX0_crossedPairs_40 : decode cX0_crossedPairs 40 = .ok (.aload_n 0, 1) := by decide +kernel
theorem dX0_crossedPairs_41 : decode cX0_crossedPairs 41 = .ok (.getfield 12, 3) := by decide +kernel
theorem dX0_crossedPairs_44 : decode cX0_crossedPairs 44 = .ok (.aload_n 0, 1) := by decide +kernel
theorem dX0_crossedPairs_45 : decode cX0_crossedPairs 45 = .ok (.getfield 18, 3) := by decide +kernel
theorem dX0_crossedPairs_48 : decode cX0_crossedPairs 48 = .ok (.iload 4, 2) := by decide +kernel
theorem dX0_crossedPairs_50 : decode cX0_crossedPairs 50 = .ok (.invokevirtual 67, 3) := by decide +kernel
theorem dX0_crossedPairs_53 : decode cX0_crossedPairs 53 = .ok (.invokevirtual 29, 3) := by decide +kernel
theorem dX0_crossedPairs_56 : decode cX0_crossedPairs 56 = .ok (.iload_n 3, 1) := by decide +kernel
theorem dX0_crossedPairs_57 : decode cX0_crossedPairs 57 = .ok (.if_icmp .le 6, 3) := by decide +kernel
theorem dX0_crossedPairs_60 : decode cX0_crossedPairs 60 = .ok (.iinc 1 1, 3) := by decide +kernel
theorem dX0_crossedPairs_63 : decode cX0_crossedPairs 63 = .ok (.iinc 4 1, 3) := by decide +kernel
theorem dX0_crossedPairs_66 : decode cX0_crossedPairs 66 = .ok (.goto (-32), 3) := by decide +kernel
theorem dX0_crossedPairs_69 : decode cX0_crossedPairs 69 = .ok (.iinc 2 1, 3) := by decide +kernel
theorem dX0_crossedPairs_72 : decode cX0_crossedPairs 72 = .ok (.goto (-68), 3) := by decide +kernel
theorem dX0_crossedPairs_75 : decode cX0_crossedPairs 75 = .ok (.iload_n 1, 1) := by decide +kernel
theorem dX0_crossedPairs_76 : decode cX0_crossedPairs 76 = .ok (.ireturn, 1) := by decide +kernel
set_option maxRecDepth 20000 in
theorem ggX0_become_X2_become : GoodIn wsX0_become wsX2_become := goodIn_r _ [9, 10, 11, 12, 13, 8, 14, 15, 16, 17, 18, 19, 20, 21, 22, 23, 24, 25, 26, 27, 28, 33, 34, 35] (by decide +kernel) (by decide +kernel)
set_option maxRecDepth 20000 in
theorem gX0_become_X2_become : GoodIn wsX0_become (wsV RX0 73 RX2 yX2_become wsX2_become) := goodIn_app (goodIn_of _ (by decide +kernel)) ggX0_become_X2_become
theorem dX0_become_0 : decode cX0_become 0 = .ok (.aload_n 0, 1) := by decide +kernel
theorem dX0_become_1 : decode cX0_become 1 = .ok (.getfield 12, 3) := by decide +kernel
theorem dX0_become_4 : decode cX0_become 4 = .ok (.aload_n 1, 1) := by decide +kernel
theorem dX0_become_5 : decode cX0_become 5 = .ok (.getfield 12, 3) := by decide +kernel
theorem dX0_become_8 : decode cX0_become 8 = .ok (.invokevirtual 73, 3) := by decide +kernel
theorem dX0_become_11 : decode cX0_become 11 = .ok (.aload_n 0, 1) := by decide +kernel
theorem dX0_become_12 : decode cX0_become 12 = .ok (.getfield 18, 3) := by decide +kernel
theorem dX0_become_15 : decode cX0_become 15 = .ok (.aload_n 1, 1) := by decide +kernel
theorem dX0_become_16 : decode cX0_become 16 = .ok (.getfield 18, 3) := by decide +kernel
theorem dX0_become_19 : decode cX0_become 19 = .ok (.invokevirtual 73, 3) := by decide +kernel
theorem dX0_become_22 : decode cX0_become 22 = .ok (.aload_n 0, 1) := by decide +kernel
theorem dX0_become_23 : decode cX0_become 23 = .ok (.aload_n 1, 1) := by decide +kernel
theorem dX0_become_24 : decode cX0_become 24 = .ok (.getfield 21, 3) := by decide +kernel
theorem dX0_become_27 : decode cX0_become 27 = .ok (.putfield 21, 3) := by decide +kernel
theorem dX0_become_30 : decode cX0_become 30 = .ok (.aload_n 0, 1) := by decide +kernel
theorem dX0_become_31 : decode cX0_become 31 = .ok (.aload_n 1, 1) := by decide +kernel
theorem dX0_become_32 : decode cX0_become 32 = .ok (.getfield 25, 3) := by decide +kernel
theorem dX0_become_35 : decode cX0_become 35 = .ok (.putfield 25, 3) := by decide +kernel
theorem dX0_become_38 : decode cX0_become 38 = .ok (.return_, 1) := by decide +kernel
set_option maxRecDepth 20000 in
theorem ggX1_init_X0_init : GoodIn wsX1_init wsX0_init := goodIn_r _ [12, 13, 2, 3, 14, 15, 16, 17, 18, 19, 20, 21, 22, 23, 24, 25, 26, 27, 28, 36, 37, 38, 32, 33, 34, 35] (by decide +kernel) (by decide +kernel)
set_option maxRecDepth 20000 in
theorem gX1_init_X0_init : GoodIn wsX1_init (wsX0_init) := ggX1_init_X0_init
theorem dX1_init_0 : decode cX1_init 0 = .ok (.aload_n 0, 1) := by decide +kernel
theorem dX1_init_1 : decode cX1_init 1 = .ok (.invokespecial 3, 3) := by decide +kernel
theorem dX1_init_4 : decode cX1_init 4 = .ok (.aload_n 0, 1) := by decide +kernel
theorem dX1_init_5 : decode cX1_init 5 = .ok (.bipush 8, 2) := by decide +kernel
theorem dX1_init_7 : decode cX1_init 7 = .ok (.anewarray 9, 3) := by decide +kernel
theorem dX1_init_10 : decode cX1_init 10 = .ok (.putfield 11, 3) := by decide +kernel
theorem dX1_init_13 : decode cX1_init 13 = .ok (.iconst 0, 1) := by decide +kernel
theorem dX1_init_14 : decode cX1_init 14 = .ok (.istore_n 1, 1) := by decide +kernel
theorem dX1_init_15 : decode cX1_init 15 = .ok (.iload_n 1, 1) := by decide +kernel
theorem dX1_init_16 : decode cX1_init 16 = .ok (.aload_n 0, 1) := by decide +kernel
theorem dX1_init_17 : decode cX1_init 17 = .ok (.getfield 11, 3) := by decide +kernel
theorem dX1_init_20 : decode cX1_init 20 = .ok (.arraylength, 1) := by decide +kernel
theorem dX1_init_21 : decode cX1_init 21 = .ok (.if_icmp .ge 22, 3) := by decide +kernel
theorem dX1_init_24 : decode cX1_init 24 = .ok (.aload_n 0, 1) := by decide +kernel
theorem dX1_init_25 : decode cX1_init 25 = .ok (.getfield 11, 3) := by decide +kernel
theorem dX1_init_28 : decode cX1_init 28 = .ok (.iload_n 1, 1) := by decide +kernel
theorem dX1_init_29 : decode cX1_init 29 = .ok (.new 9, 3) := by decide +kernel
theorem dX1_init_32 : decode cX1_init 32 = .ok (.dup, 1) := by decide +kernel
theorem dX1_init_33 : decode cX1_init 33 = .ok (.invokespecial 17, 3) := by decide +kernel
theorem dX1_init_36 : decode cX1_init 36 = .ok (.aastore, 1) := by decide +kernel
theorem dX1_init_37 : decode cX1_init 37 = .ok (.iinc 1 1, 3) := by decide +kernel
theorem dX1_init_40 : decode cX1_init 40 = .ok (.goto (-25), 3) := by decide +kernel
theorem dX1_init_43 : decode cX1_init 43 = .ok (.aload_n 0, 1) := by decide +kernel
theorem dX1_init_44 : decode cX1_init 44 = .ok (.iconst 0, 1) := by decide +kernel
theorem dX1_init_45 : decode cX1_init 45 = .ok (.putfield 18, 3) := by decide +kernel
theorem dX1_init_48 : decode cX1_init 48 = .ok (.aload_n 0, 1) := by decide +kernel
theorem dX1_init_49 : decode cX1_init 49 = .ok (.iconst 0, 1) := by decide +kernel
theorem dX1_init_50 : decode cX1_init 50 = .ok (.putfield 22, 3) := by decide +kernel
theorem dX1_init_53 : decode cX1_init 53 = .ok (.return_, 1) := by decide +kernel
theorem dX1_kept_0 : decode cX1_kept 0 = .ok (.aload_n 0, 1) := by decide +kernel
theorem dX1_kept_1 : decode cX1_kept 1 = .ok (.getfield 22, 3) := by decide +kernel
theorem dX1_kept_4 : decode cX1_kept 4 = .ok (.ireturn, 1) := by decide +kernel
set_option maxRecDepth 20000 in
theorem ggX1_keep_X0_become : GoodIn wsX1_keep wsX0_become := goodIn_r _ [12, 13, 14, 15, 16, 17, 18, 19, 20, 21, 22, 23, 24, 25, 26, 27, 28, 29, 30, 31, 32, 33, 34, 35, 36, 37, 38, 39, 40, 44, 45, 46, 47, 48, 49, 50] (by decide +kernel) (by decide +kernel)
set_option maxRecDepth 20000 in
theorem gX1_keep_X0_become : GoodIn wsX1_keep (wsV RX1 25 RX0 yX0_become wsX0_become) := goodIn_app (goodIn_of _ (by decide +kernel)) ggX1_keep_X0_become
theorem dX1_keep_0 : decode cX1_keep 0 = .ok (.aload_n 0, 1) := by decide +kernel
theorem dX1_keep_1 : decode cX1_keep 1 = .ok (.getfield 18, 3) := by decide +kernel
theorem dX1_keep_4 : decode cX1_keep 4 = .ok (.ifCond .lt 15, 3) := by decide +kernel
theorem dX1_keep_7 : decode cX1_keep 7 = .ok (.aload_n 0, 1) := by decide +kernel
theorem dX1_keep_8 : decode cX1_keep 8 = .ok (.getfield 18, 3) := by decide +kernel
theorem dX1_keep_11 : decode cX1_keep 11 = .ok (.aload_n 0, 1) := by decide +kernel
theorem dX1_keep_12 : decode cX1_keep 12 = .ok (.getfield 11, 3) := by decide +kernel
theorem dX1_keep_15 : decode cX1_keep 15 = .ok (.arraylength, 1) := by decide +kernel
theorem dX1_keep_16 : decode cX1_keep 16 = .ok (.if_icmp .lt 4, 3) := by decide +kernel
theorem dX1_keep_19 : decode cX1_keep 19 = .ok (.return_, 1) := by decide +kernel
theorem dX1_keep_20 : decode cX1_keep 20 = .ok (.aload_n 0, 1) := by decide +kernel
theorem dX1_keep_21 : decode cX1_keep 21 = .ok (.getfield 11, 3) := by decide +kernel
theorem dX1_keep_24 : decode cX1_keep 24 = .ok (.aload_n 0, 1) := by decide +kernel
theorem dX1_keep_25 : decode cX1_keep 25 = .ok (.getfield 18, 3) := by decide +kernel
theorem dX1_keep_28 : decode cX1_keep 28 = .ok (.aaload, 1) := by decide +kernel
theorem dX1_keep_29 : decode cX1_keep 29 = .ok (.aload_n 1, 1) := by decide +kernel
theorem dX1_keep_30 : decode cX1_keep 30 = .ok (.invokevirtual 25, 3) := by decide +kernel
theorem dX1_keep_33 : decode cX1_keep 33 = .ok (.aload_n 0, 1) := by decide +kernel
theorem dX1_keep_34 : decode cX1_keep 34 = .ok (.aload_n 0, 1) := by decide +kernel
theorem dX1_keep_35 : decode cX1_keep 35 = .ok (.getfield 18, 3) := by decide +kernel
theorem dX1_keep_38 : decode cX1_keep 38 = .ok (.iconst 1, 1) := by decide +kernel
theorem dX1_keep_39 : decode cX1_keep 39 = .ok (.iadd, 1) := by decide +kernel
theorem dX1_keep_40 : decode cX1_keep 40 = .ok (.aload_n 0, 1) := by decide +kernel
theorem dX1_keep_41 : decode cX1_keep 41 = .ok (.getfield 11, 3) := by decide +kernel
theorem dX1_keep_44 : decode cX1_keep 44 = .ok (.arraylength, 1) := by decide +kernel
theorem dX1_keep_45 : decode cX1_keep 45 = .ok (.if_icmp .ge 12, 3) := by decide +kernel
theorem dX1_keep_48 : decode cX1_keep 48 = .ok (.aload_n 0, 1) := by decide +kernel
theorem dX1_keep_49 : decode cX1_keep 49 = .ok (.getfield 18, 3) := by decide +kernel
theorem dX1_keep_52 : decode cX1_keep 52 = .ok (.iconst 1, 1) := by decide +kernel
theorem dX1_keep_53 : decode cX1_keep 53 = .ok (.iadd, 1) := by decide +kernel
theorem dX1_keep_54 : decode cX1_keep 54 = .ok (.goto 4, 3) := by decide +kernel
theorem dX1_keep_57 : decode cX1_keep 57 = .ok (.iconst 0, 1) := by decide +kernel
theorem dX1_keep_58 : decode cX1_keep 58 = .ok (.putfield 18, 3) := by decide +kernel
theorem dX1_keep_61 : decode cX1_keep 61 = .ok (.aload_n 0, 1) := by decide +kernel
theorem dX1_keep_62 : decode cX1_keep 62 = .ok (.aload_n 0, 1) := by decide +kernel
theorem dX1_keep_63 : decode cX1_keep 63 = .ok (.getfield 22, 3) := by decide +kernel
theorem dX1_keep_66 : decode cX1_keep 66 = .ok (.iconst 1, 1) := by decide +kernel
theorem dX1_keep_67 : decode cX1_keep 67 = .ok (.iadd, 1) := by decide +kernel
theorem dX1_keep_68 : decode cX1_keep 68 = .ok (.aload_n 0, 1) := by decide +kernel
theorem dX1_keep_69 : decode cX1_keep 69 = .ok (.getfield 11, 3) := by decide +kernel
theorem dX1_keep_72 : decode cX1_keep 72 = .ok (.arraylength, 1) := by decide +kernel
theorem dX1_keep_73 : decode cX1_keep 73 = .ok (.invokestatic 29, 3) := by decide +kernel
theorem dX1_keep_76 : decode cX1_keep 76 = .ok (.putfield 22, 3) := by decide +kernel
theorem dX1_keep_79 : decode cX1_keep 79 = .ok (.return_, 1) := by decide +kernel
set_option maxRecDepth 20000 in
theorem ggX1_bringBack_X0_become : GoodIn wsX1_bringBack wsX0_become := goodIn_r _ [8, 9, 10, 11, 12, 13, 14, 15, 16, 17, 18, 19, 20, 21, 22, 23, 24, 25, 26, 27, 28, 29, 30, 31, 32, 33, 34, 35, 36, 40, 41, 42, 43, 44, 45, 46] (by decide +kernel) (by decide +kernel)
set_option maxRecDepth 20000 in
theorem gX1_bringBack_X0_become : GoodIn wsX1_bringBack (wsV RX1 25 RX0 yX0_become wsX0_become) := goodIn_app (goodIn_of _ (by decide +kernel)) ggX1_bringBack_X0_become
theorem dX1_bringBack_0 : decode cX1_bringBack 0 = .ok (.aload_n 0, 1) := by decide +kernel
theorem dX1_bringBack_1 : decode cX1_bringBack 1 = .ok (.getfield 18, 3) := by decide +kernel
theorem dX1_bringBack_4 : decode cX1_bringBack 4 = .ok (.ifCond .le 12, 3) := by decide +kernel
theorem dX1_bringBack_7 : decode cX1_bringBack 7 = .ok (.aload_n 0, 1) := by decide +kernel
theorem dX1_bringBack_8 : decode cX1_bringBack 8 = .ok (.getfield 18, 3) := by decide +kernel
theorem dX1_bringBack_11 : decode cX1_bringBack 11 = .ok (.iconst 1, 1) := by decide +kernel
theorem dX1_bringBack_12 : decode cX1_bringBack 12 = .ok (.isub, 1) := by decide +kernel
theorem dX1_bringBack_13 : decode cX1_bringBack 13 = .ok (.goto 10, 3) := by decide +kernel
theorem dX1_bringBack_16 : decode cX1_bringBack 16 = .ok (.aload_n 0, 1) := by decide +kernel
theorem dX1_bringBack_17 : decode cX1_bringBack 17 = .ok (.getfield 11, 3) := by decide +kernel
theorem dX1_bringBack_20 : decode cX1_bringBack 20 = .ok (.arraylength, 1) := by decide +kernel
theorem dX1_bringBack_21 : decode cX1_bringBack 21 = .ok (.iconst 1, 1) := by decide +kernel
theorem dX1_bringBack_22 : decode cX1_bringBack 22 = .ok (.isub, 1) := by decide +kernel
theorem dX1_bringBack_23 : decode cX1_bringBack 23 = .ok (.istore_n 2, 1) := by decide +kernel
theorem dX1_bringBack_24 : decode cX1_bringBack 24 = .ok (.aload_n 0, 1) := by decide +kernel
theorem dX1_bringBack_25 : decode cX1_bringBack 25 = .ok (.getfield 22, 3) := by decide +kernel
theorem dX1_bringBack_28 : decode cX1_bringBack 28 = .ok (.ifCond .eq 16, 3) := by decide +kernel
theorem dX1_bringBack_31 : decode cX1_bringBack 31 = .ok (.iload_n 2, 1) := by decide +kernel
theorem dX1_bringBack_32 : decode cX1_bringBack 32 = .ok (.ifCond .lt 12, 3) := by decide +kernel
theorem dX1_bringBack_35 : decode cX1_bringBack 35 = .ok (.iload_n 2, 1) := by decide +kernel
theorem dX1_bringBack_36 : decode cX1_bringBack 36 = .ok (.aload_n 0, 1) := by decide +kernel
theorem dX1_bringBack_37 : decode cX1_bringBack 37 = .ok (.getfield 11, 3) := by decide +kernel
theorem dX1_bringBack_40 : decode cX1_bringBack 40 = .ok (.arraylength, 1) := by decide +kernel
theorem dX1_bringBack_41 : decode cX1_bringBack 41 = .ok (.if_icmp .lt 4, 3) := by decide +kernel
theorem dX1_bringBack_44 : decode cX1_bringBack 44 = .ok (.return_, 1) := by decide +kernel
theorem dX1_bringBack_45 : decode cX1_bringBack 45 = .ok (.aload_n 1, 1) := by decide +kernel
theorem dX1_bringBack_46 : decode cX1_bringBack 46 = .ok (.aload_n 0, 1) := by decide +kernel
theorem dX1_bringBack_47 : decode cX1_bringBack 47 = .ok (.getfield 11, 3) := by decide +kernel
theorem dX1_bringBack_50 : decode cX1_bringBack 50 = .ok (.iload_n 2, 1) := by decide +kernel
theorem dX1_bringBack_51 : decode cX1_bringBack 51 = .ok (.aaload, 1) := by decide +kernel
theorem dX1_bringBack_52 : decode cX1_bringBack 52 = .ok (.invokevirtual 25, 3) := by decide +kernel
theorem dX1_bringBack_55 : decode cX1_bringBack 55 = .ok (.aload_n 0, 1) := by decide +kernel
theorem dX1_bringBack_56 : decode cX1_bringBack 56 = .ok (.iload_n 2, 1) := by decide +kernel
theorem dX1_bringBack_57 : decode cX1_bringBack 57 = .ok (.putfield 18, 3) := by decide +kernel
theorem dX1_bringBack_60 : decode cX1_bringBack 60 = .ok (.aload_n 0, 1) := by decide +kernel
theorem dX1_bringBack_61 : decode cX1_bringBack 61 = .ok (.dup, 1) := by decide +kernel
theorem dX1_bringBack_62 : decode cX1_bringBack 62 = .ok (.getfield 22, 3) := by decide +kernel
theorem dX1_bringBack_65 : decode cX1_bringBack 65 = .ok (.iconst 1, 1) := by decide +kernel
theorem dX1_bringBack_66 : decode cX1_bringBack 66 = .ok (.isub, 1) := by decide +kernel
theorem dX1_bringBack_67 : decode cX1_bringBack 67 = .ok (.putfield 22, 3) := by decide +kernel
theorem dX1_bringBack_70 : decode cX1_bringBack 70 = .ok (.return_, 1) := by decide +kernel
theorem dX2_init_0 : decode cX2_init 0 = .ok (.aload_n 0, 1) := by decide +kernel
theorem dX2_init_1 : decode cX2_init 1 = .ok (.invokespecial 3, 3) := by decide +kernel
theorem dX2_init_4 : decode cX2_init 4 = .ok (.aload_n 0, 1) := by decide +kernel
theorem dX2_init_5 : decode cX2_init 5 = .ok (.bipush 12, 2) := by decide +kernel
theorem dX2_init_7 : decode cX2_init 7 = .ok (.newarray .int, 2) := by decide +kernel
theorem dX2_init_9 : decode cX2_init 9 = .ok (.putfield 9, 3) := by decide +kernel
theorem dX2_init_12 : decode cX2_init 12 = .ok (.aload_n 0, 1) := by decide +kernel
theorem dX2_init_13 : decode cX2_init 13 = .ok (.bipush 12, 2) := by decide +kernel
theorem dX2_init_15 : decode cX2_init 15 = .ok (.newarray .int, 2) := by decide +kernel
theorem dX2_init_17 : decode cX2_init 17 = .ok (.putfield 15, 3) := by decide +kernel
theorem dX2_init_20 : decode cX2_init 20 = .ok (.aload_n 0, 1) := by decide +kernel
theorem dX2_init_21 : decode cX2_init 21 = .ok (.iconst 0, 1) := by decide +kernel
theorem dX2_init_22 : decode cX2_init 22 = .ok (.putfield 18, 3) := by decide +kernel
theorem dX2_init_25 : decode cX2_init 25 = .ok (.return_, 1) := by decide +kernel
theorem dX2_count_0 : decode cX2_count 0 = .ok (.aload_n 0, 1) := by decide +kernel
theorem dX2_count_1 : decode cX2_count 1 = .ok (.getfield 18, 3) := by decide +kernel
theorem dX2_count_4 : decode cX2_count 4 = .ok (.ireturn, 1) := by decide +kernel
theorem dX2_holdsPlace_0 : decode cX2_holdsPlace 0 = .ok (.iload_n 1, 1) := by decide +kernel
theorem dX2_holdsPlace_1 : decode cX2_holdsPlace 1 = .ok (.ifCond .lt 24, 3) := by decide +kernel
theorem dX2_holdsPlace_4 : decode cX2_holdsPlace 4 = .ok (.iload_n 1, 1) := by decide +kernel
theorem dX2_holdsPlace_5 : decode cX2_holdsPlace 5 = .ok (.aload_n 0, 1) := by decide +kernel
theorem dX2_holdsPlace_6 : decode cX2_holdsPlace 6 = .ok (.getfield 18, 3) := by decide +kernel
theorem dX2_holdsPlace_9 : decode cX2_holdsPlace 9 = .ok (.if_icmp .ge 16, 3) := by decide +kernel
theorem dX2_holdsPlace_12 : decode cX2_holdsPlace 12 = .ok (.iload_n 1, 1) := by decide +kernel
theorem dX2_holdsPlace_13 : decode cX2_holdsPlace 13 = .ok (.aload_n 0, 1) := by decide +kernel
theorem dX2_holdsPlace_14 : decode cX2_holdsPlace 14 = .ok (.getfield 9, 3) := by decide +kernel
theorem dX2_holdsPlace_17 : decode cX2_holdsPlace 17 = .ok (.arraylength, 1) := by decide +kernel
theorem dX2_holdsPlace_18 : decode cX2_holdsPlace 18 = .ok (.if_icmp .ge 7, 3) := by decide +kernel
theorem dX2_holdsPlace_21 : decode cX2_holdsPlace 21 = .ok (.iconst 1, 1) := by decide +kernel
theorem dX2_holdsPlace_22 : decode cX2_holdsPlace 22 = .ok (.goto 4, 3) := by decide +kernel
theorem dX2_holdsPlace_25 : decode cX2_holdsPlace 25 = .ok (.iconst 0, 1) := by decide +kernel
theorem dX2_holdsPlace_26 : decode cX2_holdsPlace 26 = .ok (.ireturn, 1) := by decide +kernel
set_option maxRecDepth 20000 in
theorem ggX2_keyIn_X2_holdsPlace : GoodIn wsX2_keyIn wsX2_holdsPlace := goodIn_r _ [6, 7, 1, 8, 9, 10] (by decide +kernel) (by decide +kernel)
set_option maxRecDepth 20000 in
theorem gX2_keyIn_X2_holdsPlace : GoodIn wsX2_keyIn (wsV RX2 22 RX2 yX2_holdsPlace wsX2_holdsPlace) := goodIn_app (goodIn_of _ (by decide +kernel)) ggX2_keyIn_X2_holdsPlace
theorem dX2_keyIn_0 : decode cX2_keyIn 0 = .ok (.aload_n 0, 1) := by decide +kernel
theorem dX2_keyIn_1 : decode cX2_keyIn 1 = .ok (.iload_n 1, 1) := by decide +kernel
theorem dX2_keyIn_2 : decode cX2_keyIn 2 = .ok (.invokevirtual 22, 3) := by decide +kernel
theorem dX2_keyIn_5 : decode cX2_keyIn 5 = .ok (.ifCond .eq 12, 3) := by decide +kernel
theorem dX2_keyIn_8 : decode cX2_keyIn 8 = .ok (.aload_n 0, 1) := by decide +kernel
theorem dX2_keyIn_9 : decode cX2_keyIn 9 = .ok (.getfield 9, 3) := by decide +kernel
theorem dX2_keyIn_12 : decode cX2_keyIn 12 = .ok (.iload_n 1, 1) := by decide +kernel
theorem dX2_keyIn_13 : decode cX2_keyIn 13 = .ok (.iaload, 1) := by decide +kernel
theorem dX2_keyIn_14 : decode cX2_keyIn 14 = .ok (.goto 4, 3) := by decide +kernel
theorem dX2_keyIn_17 : decode cX2_keyIn 17 = .ok (.iconst (-1), 1) := by decide +kernel
theorem dX2_keyIn_18 : decode cX2_keyIn 18 = .ok (.ireturn, 1) := by decide +kernel
set_option maxRecDepth 20000 in
theorem ggX2_valueIn_X2_holdsPlace : GoodIn wsX2_valueIn wsX2_holdsPlace := goodIn_r _ [6, 7, 8, 9, 10, 11] (by decide +kernel) (by decide +kernel)
set_option maxRecDepth 20000 in
theorem gX2_valueIn_X2_holdsPlace : GoodIn wsX2_valueIn (wsV RX2 22 RX2 yX2_holdsPlace wsX2_holdsPlace) := goodIn_app (goodIn_of _ (by decide +kernel)) ggX2_valueIn_X2_holdsPlace
theorem dX2_valueIn_0 : decode cX2_valueIn 0 = .ok (.aload_n 0, 1) := by decide +kernel
theorem dX2_valueIn_1 : decode cX2_valueIn 1 = .ok (.iload_n 1, 1) := by decide +kernel
theorem dX2_valueIn_2 : decode cX2_valueIn 2 = .ok (.invokevirtual 22, 3) := by decide +kernel
theorem dX2_valueIn_5 : decode cX2_valueIn 5 = .ok (.ifCond .eq 12, 3) := by decide +kernel
theorem dX2_valueIn_8 : decode cX2_valueIn 8 = .ok (.aload_n 0, 1) := by decide +kernel
theorem dX2_valueIn_9 : decode cX2_valueIn 9 = .ok (.getfield 15, 3) := by decide +kernel
theorem dX2_valueIn_12 : decode cX2_valueIn 12 = .ok (.iload_n 1, 1) := by decide +kernel
theorem dX2_valueIn_13 : decode cX2_valueIn 13 = .ok (.iaload, 1) := by decide +kernel
theorem dX2_valueIn_14 : decode cX2_valueIn 14 = .ok (.goto 4, 3) := by decide +kernel
theorem dX2_valueIn_17 : decode cX2_valueIn 17 = .ok (.iconst 0, 1) := by decide +kernel
theorem dX2_valueIn_18 : decode cX2_valueIn 18 = .ok (.ireturn, 1) := by decide +kernel
set_option maxRecDepth 20000 in
theorem ggX2_find_X2_keyIn : GoodIn wsX2_find wsX2_keyIn := goodIn_r _ [6, 7, 8, 9, 10, 5, 11, 1, 12, 13, 14] (by decide +kernel) (by decide +kernel)
set_option maxRecDepth 20000 in
theorem gX2_find_X2_keyIn : GoodIn wsX2_find (wsV RX2 26 RX2 yX2_keyIn wsX2_keyIn) := goodIn_app (goodIn_of _ (by decide +kernel)) ggX2_find_X2_keyIn
theorem dX2_find_0 : decode cX2_find 0 = .ok (.iconst 0, 1) := by decide +kernel
theorem dX2_find_1 : decode cX2_find 1 = .ok (.istore_n 2, 1) := by decide +kernel
theorem dX2_find_2 : decode cX2_find 2 = .ok (.iload_n 2, 1) := by decide +kernel
theorem dX2_find_3 : decode cX2_find 3 = .ok (.aload_n 0, 1) := by decide +kernel
theorem dX2_find_4 : decode cX2_find 4 = .ok (.getfield 18, 3) := by decide +kernel
theorem dX2_find_7 : decode cX2_find 7 = .ok (.if_icmp .ge 20, 3) := by decide +kernel
theorem dX2_find_10 : decode cX2_find 10 = .ok (.aload_n 0, 1) := by decide +kernel
theorem dX2_find_11 : decode cX2_find 11 = .ok (.iload_n 2, 1) := by decide +kernel
theorem dX2_find_12 : decode cX2_find 12 = .ok (.invokevirtual 26, 3) := by decide +kernel
theorem dX2_find_15 : decode cX2_find 15 = .ok (.iload_n 1, 1) := by decide +kernel
theorem dX2_find_16 : decode cX2_find 16 = .ok (.if_icmp .ne 5, 3) := by decide +kernel
theorem dX2_find_19 : decode cX2_find 19 = .ok (.iload_n 2, 1) := by decide +kernel
theorem dX2_find_20 : decode cX2_find 20 = .ok (.ireturn, 1) := by decide +kernel
theorem dX2_find_21 : decode cX2_find 21 = .ok (.iinc 2 1, 3) := by decide +kernel
theorem dX2_find_24 : decode cX2_find 24 = .ok (.goto (-22), 3) := by decide +kernel
theorem dX2_find_27 : decode cX2_find 27 = .ok (.iconst (-1), 1) := by decide +kernel
theorem dX2_find_28 : decode cX2_find 28 = .ok (.ireturn, 1) := by decide +kernel
set_option maxRecDepth 20000 in
theorem ggX2_give_X2_holdsPlace : GoodIn wsX2_give wsX2_holdsPlace := goodIn_r _ [6, 7, 8, 9, 10, 11] (by decide +kernel) (by decide +kernel)
set_option maxRecDepth 20000 in
theorem gX2_give_X2_holdsPlace : GoodIn wsX2_give (wsV RX2 22 RX2 yX2_holdsPlace wsX2_holdsPlace) := goodIn_app (goodIn_of _ (by decide +kernel)) ggX2_give_X2_holdsPlace
theorem dX2_give_0 : decode cX2_give 0 = .ok (.aload_n 0, 1) := by decide +kernel
theorem dX2_give_1 : decode cX2_give 1 = .ok (.iload_n 1, 1) := by decide +kernel
theorem dX2_give_2 : decode cX2_give 2 = .ok (.invokevirtual 22, 3) := by decide +kernel
theorem dX2_give_5 : decode cX2_give 5 = .ok (.ifCond .eq 10, 3) := by decide +kernel
theorem dX2_give_8 : decode cX2_give 8 = .ok (.aload_n 0, 1) := by decide +kernel
theorem dX2_give_9 : decode cX2_give 9 = .ok (.getfield 15, 3) := by decide +kernel
theorem dX2_give_12 : decode cX2_give 12 = .ok (.iload_n 1, 1) := by decide +kernel
theorem dX2_give_13 : decode cX2_give 13 = .ok (.iload_n 2, 1) := by decide +kernel
theorem dX2_give_14 : decode cX2_give 14 = .ok (.iastore, 1) := by decide +kernel
theorem dX2_give_15 : decode cX2_give 15 = .ok (.return_, 1) := by decide +kernel
theorem dX2_append_0 : decode cX2_append 0 = .ok (.aload_n 0, 1) := by decide +kernel
theorem dX2_append_1 : decode cX2_append 1 = .ok (.getfield 18, 3) := by decide +kernel
theorem dX2_append_4 : decode cX2_append 4 = .ok (.aload_n 0, 1) := by decide +kernel
theorem dX2_append_5 : decode cX2_append 5 = .ok (.getfield 9, 3) := by decide +kernel
theorem dX2_append_8 : decode cX2_append 8 = .ok (.arraylength, 1) := by decide +kernel
theorem dX2_append_9 : decode cX2_append 9 = .ok (.if_icmp .ge 33, 3) := by decide +kernel
theorem dX2_append_12 : decode cX2_append 12 = .ok (.aload_n 0, 1) := by decide +kernel
theorem dX2_append_13 : decode cX2_append 13 = .ok (.getfield 9, 3) := by decide +kernel
theorem dX2_append_16 : decode cX2_append 16 = .ok (.aload_n 0, 1) := by decide +kernel
theorem dX2_append_17 : decode cX2_append 17 = .ok (.getfield 18, 3) := by decide +kernel
theorem dX2_append_20 : decode cX2_append 20 = .ok (.iload_n 1, 1) := by decide +kernel
theorem dX2_append_21 : decode cX2_append 21 = .ok (.iastore, 1) := by decide +kernel
theorem dX2_append_22 : decode cX2_append 22 = .ok (.aload_n 0, 1) := by decide +kernel
theorem dX2_append_23 : decode cX2_append 23 = .ok (.getfield 15, 3) := by decide +kernel
theorem dX2_append_26 : decode cX2_append 26 = .ok (.aload_n 0, 1) := by decide +kernel
theorem dX2_append_27 : decode cX2_append 27 = .ok (.getfield 18, 3) := by decide +kernel
theorem dX2_append_30 : decode cX2_append 30 = .ok (.iload_n 2, 1) := by decide +kernel
theorem dX2_append_31 : decode cX2_append 31 = .ok (.iastore, 1) := by decide +kernel
theorem dX2_append_32 : decode cX2_append 32 = .ok (.aload_n 0, 1) := by decide +kernel
theorem dX2_append_33 : decode cX2_append 33 = .ok (.dup, 1) := by decide +kernel
theorem dX2_append_34 : decode cX2_append 34 = .ok (.getfield 18, 3) := by decide +kernel
theorem dX2_append_37 : decode cX2_append 37 = .ok (.iconst 1, 1) := by decide +kernel
theorem dX2_append_38 : decode cX2_append 38 = .ok (.iadd, 1) := by decide +kernel
theorem dX2_append_39 : decode cX2_append 39 = .ok (.putfield 18, 3) := by decide +kernel
theorem dX2_append_42 : decode cX2_append 42 = .ok (.return_, 1) := by decide +kernel
set_option maxRecDepth 20000 in
theorem ggX2_close_X2_holdsPlace : GoodIn wsX2_close wsX2_holdsPlace := goodIn_r _ [8, 1, 2, 9, 10, 11] (by decide +kernel) (by decide +kernel)
set_option maxRecDepth 20000 in
theorem gX2_close_X2_holdsPlace : GoodIn wsX2_close (wsV RX2 22 RX2 yX2_holdsPlace wsX2_holdsPlace) := goodIn_app (goodIn_of _ (by decide +kernel)) ggX2_close_X2_holdsPlace
theorem dX2_close_0 : decode cX2_close 0 = .ok (.aload_n 0, 1) := by decide +kernel
theorem dX2_close_1 : decode cX2_close 1 = .ok (.iload_n 1, 1) := by decide +kernel
theorem dX2_close_2 : decode cX2_close 2 = .ok (.invokevirtual 22, 3) := by decide +kernel
theorem dX2_close_5 : decode cX2_close 5 = .ok (.ifCond .ne 4, 3) := by decide +kernel
theorem dX2_close_8 : decode cX2_close 8 = .ok (.return_, 1) := by decide +kernel
theorem dX2_close_9 : decode cX2_close 9 = .ok (.iload_n 1, 1) := by decide +kernel
theorem dX2_close_10 : decode cX2_close 10 = .ok (.iconst 1, 1) := by decide +kernel
theorem dX2_close_11 : decode cX2_close 11 = .ok (.iadd, 1) := by decide +kernel
theorem dX2_close_12 : decode cX2_close 12 = .ok (.istore_n 2, 1) := by decide +kernel
theorem dX2_close_13 : decode cX2_close 13 = .ok (.iload_n 2, 1) := by decide +kernel
theorem dX2_close_14 : decode cX2_close 14 = .ok (.aload_n 0, 1) := by decide +kernel
theorem dX2_close_15 : decode cX2_close 15 = .ok (.getfield 18, 3) := by decide +kernel
theorem dX2_close_18 : decode cX2_close 18 = .ok (.if_icmp .ge 46, 3) := by decide +kernel
theorem dX2_close_21 : decode cX2_close 21 = .ok (.iload_n 2, 1) := by decide +kernel
theorem dX2_close_22 : decode cX2_close 22 = .ok (.aload_n 0, 1) := by decide +kernel
theorem dX2_close_23 : decode cX2_close 23 = .ok (.getfield 9, 3) := by decide +kernel
theorem dX2_close_26 : decode cX2_close 26 = .ok (.arraylength, 1) := by decide +kernel
theorem dX2_close_27 : decode cX2_close 27 = .ok (.if_icmp .ge 37, 3) := by decide +kernel
theorem dX2_close_30 : decode cX2_close 30 = .ok (.aload_n 0, 1) := by decide +kernel
theorem dX2_close_31 : decode cX2_close 31 = .ok (.getfield 9, 3) := by decide +kernel
theorem dX2_close_34 : decode cX2_close 34 = .ok (.iload_n 2, 1) := by decide +kernel
theorem dX2_close_35 : decode cX2_close 35 = .ok (.iconst 1, 1) := by decide +kernel
theorem dX2_close_36 : decode cX2_close 36 = .ok (.isub, 1) := by decide +kernel
theorem dX2_close_37 : decode cX2_close 37 = .ok (.aload_n 0, 1) := by decide +kernel
theorem dX2_close_38 : decode cX2_close 38 = .ok (.getfield 9, 3) := by decide +kernel
theorem dX2_close_41 : decode cX2_close 41 = .ok (.iload_n 2, 1) := by decide +kernel
theorem dX2_close_42 : decode cX2_close 42 = .ok (.iaload, 1) := by decide +kernel
theorem dX2_close_43 : decode cX2_close 43 = .ok (.iastore, 1) := by decide +kernel
theorem dX2_close_44 : decode cX2_close 44 = .ok (.aload_n 0, 1) := by decide +kernel
theorem dX2_close_45 : decode cX2_close 45 = .ok (.getfield 15, 3) := by decide +kernel
theorem dX2_close_48 : decode cX2_close 48 = .ok (.iload_n 2, 1) := by decide +kernel
theorem dX2_close_49 : decode cX2_close 49 = .ok (.iconst 1, 1) := by decide +kernel
theorem dX2_close_50 : decode cX2_close 50 = .ok (.isub, 1) := by decide +kernel
theorem dX2_close_51 : decode cX2_close 51 = .ok (.aload_n 0, 1) := by decide +kernel
theorem dX2_close_52 : decode cX2_close 52 = .ok (.getfield 15, 3) := by decide +kernel
theorem dX2_close_55 : decode cX2_close 55 = .ok (.iload_n 2, 1) := by decide +kernel
theorem dX2_close_56 : decode cX2_close 56 = .ok (.iaload, 1) := by decide +kernel
theorem dX2_close_57 : decode cX2_close 57 = .ok (.iastore, 1) := by decide +kernel
theorem dX2_close_58 : decode cX2_close 58 = .ok (.iinc 2 1, 3) := by decide +kernel
theorem dX2_close_61 : decode cX2_close 61 = .ok (.goto (-48), 3) := by decide +kernel
theorem dX2_close_64 : decode cX2_close 64 = .ok (.aload_n 0, 1) := by decide +kernel
theorem dX2_close_65 : decode cX2_close 65 = .ok (.dup, 1) := by decide +kernel
theorem dX2_close_66 : decode cX2_close 66 = .ok (.getfield 18, 3) := by decide +kernel
theorem dX2_close_69 : decode cX2_close 69 = .ok (.iconst 1, 1) := by decide +kernel
theorem dX2_close_70 : decode cX2_close 70 = .ok (.isub, 1) := by decide +kernel
theorem dX2_close_71 : decode cX2_close 71 = .ok (.putfield 18, 3) := by decide +kernel
theorem dX2_close_74 : decode cX2_close 74 = .ok (.return_, 1) := by decide +kernel
set_option maxRecDepth 20000 in
theorem ggX2_putLast_X2_holdsPlace : GoodIn wsX2_putLast wsX2_holdsPlace := goodIn_r _ [7, 8, 1, 17, 18, 19] (by decide +kernel) (by decide +kernel)
set_option maxRecDepth 20000 in
theorem gX2_putLast_X2_holdsPlace : GoodIn wsX2_putLast (wsV RX2 22 RX2 yX2_holdsPlace wsX2_holdsPlace) := goodIn_app (goodIn_of _ (by decide +kernel)) ggX2_putLast_X2_holdsPlace
set_option maxRecDepth 20000 in
theorem ggX2_putLast_X2_close : GoodIn wsX2_putLast wsX2_close := goodIn_r _ [12, 8, 1, 2, 3, 4, 5, 6, 7, 17, 18, 19] (by decide +kernel) (by decide +kernel)
set_option maxRecDepth 20000 in
theorem gX2_putLast_X2_close : GoodIn wsX2_putLast (wsV RX2 30 RX2 yX2_close wsX2_close) := goodIn_app (goodIn_of _ (by decide +kernel)) ggX2_putLast_X2_close
set_option maxRecDepth 20000 in
theorem ggX2_putLast_X2_append : GoodIn wsX2_putLast wsX2_append := goodIn_r _ [16, 8, 1, 2, 17, 18, 19] (by decide +kernel) (by decide +kernel)
set_option maxRecDepth 20000 in
theorem gX2_putLast_X2_append : GoodIn wsX2_putLast (wsV RX2 34 RX2 yX2_append wsX2_append) := goodIn_app (goodIn_of _ (by decide +kernel)) ggX2_putLast_X2_append
theorem dX2_putLast_0 : decode cX2_putLast 0 = .ok (.aload_n 0, 1) := by decide +kernel
theorem dX2_putLast_1 : decode cX2_putLast 1 = .ok (.iload_n 1, 1) := by decide +kernel
theorem dX2_putLast_2 : decode cX2_putLast 2 = .ok (.invokevirtual 22, 3) := by decide +kernel
theorem dX2_putLast_5 : decode cX2_putLast 5 = .ok (.ifCond .ne 4, 3) := by decide +kernel
theorem dX2_putLast_8 : decode cX2_putLast 8 = .ok (.return_, 1) := by decide +kernel
theorem dX2_putLast_9 : decode cX2_putLast 9 = .ok (.aload_n 0, 1) := by decide +kernel
theorem dX2_putLast_10 : decode cX2_putLast 10 = .ok (.getfield 9, 3) := by decide +kernel
theorem dX2_putLast_13 : decode cX2_putLast 13 = .ok (.iload_n 1, 1) := by decide +kernel
theorem dX2_putLast_14 : decode cX2_putLast 14 = .ok (.iaload, 1) := by decide +kernel
theorem dX2_putLast_15 : decode cX2_putLast 15 = .ok (.istore_n 2, 1) := by decide +kernel
theorem dX2_putLast_16 : decode cX2_putLast 16 = .ok (.aload_n 0, 1) := by decide +kernel
theorem dX2_putLast_17 : decode cX2_putLast 17 = .ok (.getfield 15, 3) := by decide +kernel
theorem dX2_putLast_20 : decode cX2_putLast 20 = .ok (.iload_n 1, 1) := by decide +kernel
theorem dX2_putLast_21 : decode cX2_putLast 21 = .ok (.iaload, 1) := by decide +kernel
theorem dX2_putLast_22 : decode cX2_putLast 22 = .ok (.istore_n 3, 1) := by decide +kernel
theorem dX2_putLast_23 : decode cX2_putLast 23 = .ok (.aload_n 0, 1) := by decide +kernel
theorem dX2_putLast_24 : decode cX2_putLast 24 = .ok (.iload_n 1, 1) := by decide +kernel
theorem dX2_putLast_25 : decode cX2_putLast 25 = .ok (.invokevirtual 30, 3) := by decide +kernel
theorem dX2_putLast_28 : decode cX2_putLast 28 = .ok (.aload_n 0, 1) := by decide +kernel
theorem dX2_putLast_29 : decode cX2_putLast 29 = .ok (.iload_n 2, 1) := by decide +kernel
theorem dX2_putLast_30 : decode cX2_putLast 30 = .ok (.iload_n 3, 1) := by decide +kernel
theorem dX2_putLast_31 : decode cX2_putLast 31 = .ok (.invokevirtual 34, 3) := by decide +kernel
theorem dX2_putLast_34 : decode cX2_putLast 34 = .ok (.return_, 1) := by decide +kernel
set_option maxRecDepth 20000 in
theorem ggX2_become_X2_keyIn : GoodIn wsX2_become wsX2_keyIn := goodIn_r _ [6, 7, 8, 9, 10, 5, 11, 1, 21, 22, 23] (by decide +kernel) (by decide +kernel)
set_option maxRecDepth 20000 in
theorem gX2_become_X2_keyIn : GoodIn wsX2_become (wsV RX2 26 RX2 yX2_keyIn wsX2_keyIn) := goodIn_app (goodIn_of _ (by decide +kernel)) ggX2_become_X2_keyIn
set_option maxRecDepth 20000 in
theorem ggX2_become_X2_valueIn : GoodIn wsX2_become wsX2_valueIn := goodIn_r _ [15, 16, 8, 9, 10, 5, 11, 1, 7, 21, 22, 23] (by decide +kernel) (by decide +kernel)
set_option maxRecDepth 20000 in
theorem gX2_become_X2_valueIn : GoodIn wsX2_become (wsV RX2 38 RX2 yX2_valueIn wsX2_valueIn) := goodIn_app (goodIn_of _ (by decide +kernel)) ggX2_become_X2_valueIn
set_option maxRecDepth 20000 in
theorem ggX2_become_X2_append : GoodIn wsX2_become wsX2_append := goodIn_r _ [20, 1, 7, 16, 21, 22, 23] (by decide +kernel) (by decide +kernel)
set_option maxRecDepth 20000 in
theorem gX2_become_X2_append : GoodIn wsX2_become (wsV RX2 34 RX2 yX2_append wsX2_append) := goodIn_app (goodIn_of _ (by decide +kernel)) ggX2_become_X2_append
theorem dX2_become_0 : decode cX2_become 0 = .ok (.aload_n 0, 1) := by decide +kernel
theorem dX2_become_1 : decode cX2_become 1 = .ok (.iconst 0, 1) := by decide +kernel
theorem dX2_become_2 : decode cX2_become 2 = .ok (.putfield 18, 3) := by decide +kernel
theorem dX2_become_5 : decode cX2_become 5 = .ok (.iconst 0, 1) := by decide +kernel
theorem dX2_become_6 : decode cX2_become 6 = .ok (.istore_n 2, 1) := by decide +kernel
theorem dX2_become_7 : decode cX2_become 7 = .ok (.iload_n 2, 1) := by decide +kernel
theorem dX2_become_8 : decode cX2_become 8 = .ok (.aload_n 1, 1) := by decide +kernel
theorem dX2_become_9 : decode cX2_become 9 = .ok (.getfield 18, 3) := by decide +kernel
theorem dX2_become_12 : decode cX2_become 12 = .ok (.if_icmp .ge 23, 3) := by decide +kernel
theorem dX2_become_15 : decode cX2_become 15 = .ok (.aload_n 0, 1) := by decide +kernel
theorem dX2_become_16 : decode cX2_become 16 = .ok (.aload_n 1, 1) := by decide +kernel
theorem dX2_become_17 : decode cX2_become 17 = .ok (.iload_n 2, 1) := by decide +kernel
theorem dX2_become_18 : decode cX2_become 18 = .ok (.invokevirtual 26, 3) := by decide +kernel
theorem dX2_become_21 : decode cX2_become 21 = .ok (.aload_n 1, 1) := by decide +kernel
theorem dX2_become_22 : decode cX2_become 22 = .ok (.iload_n 2, 1) := by decide +kernel
theorem dX2_become_23 : decode cX2_become 23 = .ok (.invokevirtual 38, 3) := by decide +kernel
theorem dX2_become_26 : decode cX2_become 26 = .ok (.invokevirtual 34, 3) := by decide +kernel
theorem dX2_become_29 : decode cX2_become 29 = .ok (.iinc 2 1, 3) := by decide +kernel
theorem dX2_become_32 : decode cX2_become 32 = .ok (.goto (-25), 3) := by decide +kernel
theorem dX2_become_35 : decode cX2_become 35 = .ok (.return_, 1) := by decide +kernel
set_option maxRecDepth 20000 in
theorem ggX2_tellsAlike_X2_keyIn : GoodIn wsX2_tellsAlike wsX2_keyIn := goodIn_r _ [6, 7, 8, 9, 10, 5, 11, 1, 16, 17, 18] (by decide +kernel) (by decide +kernel)
set_option maxRecDepth 20000 in
theorem gX2_tellsAlike_X2_keyIn : GoodIn wsX2_tellsAlike (wsV RX2 26 RX2 yX2_keyIn wsX2_keyIn) := goodIn_app (goodIn_of _ (by decide +kernel)) ggX2_tellsAlike_X2_keyIn
set_option maxRecDepth 20000 in
theorem ggX2_tellsAlike_X2_find : GoodIn wsX2_tellsAlike wsX2_find := goodIn_r _ [15, 1, 2, 3, 4, 5, 6, 7, 8, 9, 10, 11, 16, 17, 18] (by decide +kernel) (by decide +kernel)
set_option maxRecDepth 20000 in
theorem gX2_tellsAlike_X2_find : GoodIn wsX2_tellsAlike (wsV RX2 41 RX2 yX2_find wsX2_find) := goodIn_app (goodIn_of _ (by decide +kernel)) ggX2_tellsAlike_X2_find
theorem dX2_tellsAlike_0 : decode cX2_tellsAlike 0 = .ok (.iconst 0, 1) := by decide +kernel
theorem dX2_tellsAlike_1 : decode cX2_tellsAlike 1 = .ok (.istore_n 1, 1) := by decide +kernel
theorem dX2_tellsAlike_2 : decode cX2_tellsAlike 2 = .ok (.iload_n 1, 1) := by decide +kernel
theorem dX2_tellsAlike_3 : decode cX2_tellsAlike 3 = .ok (.aload_n 0, 1) := by decide +kernel
theorem dX2_tellsAlike_4 : decode cX2_tellsAlike 4 = .ok (.getfield 18, 3) := by decide +kernel
theorem dX2_tellsAlike_7 : decode cX2_tellsAlike 7 = .ok (.if_icmp .ge 24, 3) := by decide +kernel
theorem dX2_tellsAlike_10 : decode cX2_tellsAlike 10 = .ok (.aload_n 0, 1) := by decide +kernel
theorem dX2_tellsAlike_11 : decode cX2_tellsAlike 11 = .ok (.aload_n 0, 1) := by decide +kernel
theorem dX2_tellsAlike_12 : decode cX2_tellsAlike 12 = .ok (.iload_n 1, 1) := by decide +kernel
theorem dX2_tellsAlike_13 : decode cX2_tellsAlike 13 = .ok (.invokevirtual 26, 3) := by decide +kernel
theorem dX2_tellsAlike_16 : decode cX2_tellsAlike 16 = .ok (.invokevirtual 41, 3) := by decide +kernel
theorem dX2_tellsAlike_19 : decode cX2_tellsAlike 19 = .ok (.iload_n 1, 1) := by decide +kernel
theorem dX2_tellsAlike_20 : decode cX2_tellsAlike 20 = .ok (.if_icmp .eq 5, 3) := by decide +kernel
theorem dX2_tellsAlike_23 : decode cX2_tellsAlike 23 = .ok (.iconst 0, 1) := by decide +kernel
theorem dX2_tellsAlike_24 : decode cX2_tellsAlike 24 = .ok (.ireturn, 1) := by decide +kernel
theorem dX2_tellsAlike_25 : decode cX2_tellsAlike 25 = .ok (.iinc 1 1, 3) := by decide +kernel
theorem dX2_tellsAlike_28 : decode cX2_tellsAlike 28 = .ok (.goto (-26), 3) := by decide +kernel
theorem dX2_tellsAlike_31 : decode cX2_tellsAlike 31 = .ok (.iconst 1, 1) := by decide +kernel
theorem dX2_tellsAlike_32 : decode cX2_tellsAlike 32 = .ok (.ireturn, 1) := by decide +kernel
set_option maxRecDepth 20000 in
theorem ggX2_hasEntriesOf_X2_keyIn : GoodIn wsX2_hasEntriesOf wsX2_keyIn := goodIn_r _ [6, 7, 8, 9, 10, 5, 11, 1, 21, 22, 23] (by decide +kernel) (by decide +kernel)
set_option maxRecDepth 20000 in
theorem gX2_hasEntriesOf_X2_keyIn : GoodIn wsX2_hasEntriesOf (wsV RX2 26 RX2 yX2_keyIn wsX2_keyIn) := goodIn_app (goodIn_of _ (by decide +kernel)) ggX2_hasEntriesOf_X2_keyIn
set_option maxRecDepth 20000 in
theorem ggX2_hasEntriesOf_X2_find : GoodIn wsX2_hasEntriesOf wsX2_find := goodIn_r _ [15, 1, 2, 3, 4, 5, 6, 7, 8, 9, 10, 11, 21, 22, 23] (by decide +kernel) (by decide +kernel)
set_option maxRecDepth 20000 in
theorem gX2_hasEntriesOf_X2_find : GoodIn wsX2_hasEntriesOf (wsV RX2 41 RX2 yX2_find wsX2_find) := goodIn_app (goodIn_of _ (by decide +kernel)) ggX2_hasEntriesOf_X2_find
set_option maxRecDepth 20000 in
theorem ggX2_hasEntriesOf_X2_valueIn : GoodIn wsX2_hasEntriesOf wsX2_valueIn := goodIn_r _ [19, 20, 8, 9, 10, 5, 11, 1, 7, 21, 22, 23] (by decide +kernel) (by decide +kernel)
set_option maxRecDepth 20000 in
theorem gX2_hasEntriesOf_X2_valueIn : GoodIn wsX2_hasEntriesOf (wsV RX2 38 RX2 yX2_valueIn wsX2_valueIn) := goodIn_app (goodIn_of _ (by decide +kernel)) ggX2_hasEntriesOf_X2_valueIn
theorem dX2_hasEntriesOf_0 : decode cX2_hasEntriesOf 0 = .ok (.iconst 0, 1) := by decide +kernel
theorem dX2_hasEntriesOf_1 : decode cX2_hasEntriesOf 1 = .ok (.istore_n 2, 1) := by decide +kernel
theorem dX2_hasEntriesOf_2 : decode cX2_hasEntriesOf 2 = .ok (.iload_n 2, 1) := by decide +kernel
theorem dX2_hasEntriesOf_3 : decode cX2_hasEntriesOf 3 = .ok (.aload_n 1, 1) := by decide +kernel
theorem dX2_hasEntriesOf_4 : decode cX2_hasEntriesOf 4 = .ok (.getfield 18, 3) := by decide +kernel
theorem dX2_hasEntriesOf_7 : decode cX2_hasEntriesOf 7 = .ok (.if_icmp .ge 39, 3) := by decide +kernel
theorem dX2_hasEntriesOf_10 : decode cX2_hasEntriesOf 10 = .ok (.aload_n 0, 1) := by decide +kernel
theorem dX2_hasEntriesOf_11 : decode cX2_hasEntriesOf 11 = .ok (.aload_n 1, 1) := by decide +kernel
theorem dX2_hasEntriesOf_12 : decode cX2_hasEntriesOf 12 = .ok (.iload_n 2, 1) := by decide +kernel
theorem dX2_hasEntriesOf_13 : decode cX2_hasEntriesOf 13 = .ok (.invokevirtual 26, 3) := by decide +kernel
theorem dX2_hasEntriesOf_16 : decode cX2_hasEntriesOf 16 = .ok (.invokevirtual 41, 3) := by decide +kernel
theorem dX2_hasEntriesOf_19 : decode cX2_hasEntriesOf 19 = .ok (.istore_n 3, 1) := by decide +kernel
theorem dX2_hasEntriesOf_20 : decode cX2_hasEntriesOf 20 = .ok (.iload_n 3, 1) := by decide +kernel
theorem dX2_hasEntriesOf_21 : decode cX2_hasEntriesOf 21 = .ok (.iconst (-1), 1) := by decide +kernel
theorem dX2_hasEntriesOf_22 : decode cX2_hasEntriesOf 22 = .ok (.if_icmp .eq 16, 3) := by decide +kernel
theorem dX2_hasEntriesOf_25 : decode cX2_hasEntriesOf 25 = .ok (.aload_n 0, 1) := by decide +kernel
theorem dX2_hasEntriesOf_26 : decode cX2_hasEntriesOf 26 = .ok (.iload_n 3, 1) := by decide +kernel
theorem dX2_hasEntriesOf_27 : decode cX2_hasEntriesOf 27 = .ok (.invokevirtual 38, 3) := by decide +kernel
theorem dX2_hasEntriesOf_30 : decode cX2_hasEntriesOf 30 = .ok (.aload_n 1, 1) := by decide +kernel
theorem dX2_hasEntriesOf_31 : decode cX2_hasEntriesOf 31 = .ok (.iload_n 2, 1) := by decide +kernel
theorem dX2_hasEntriesOf_32 : decode cX2_hasEntriesOf 32 = .ok (.invokevirtual 38, 3) := by decide +kernel
theorem dX2_hasEntriesOf_35 : decode cX2_hasEntriesOf 35 = .ok (.if_icmp .eq 5, 3) := by decide +kernel
theorem dX2_hasEntriesOf_38 : decode cX2_hasEntriesOf 38 = .ok (.iconst 0, 1) := by decide +kernel
theorem dX2_hasEntriesOf_39 : decode cX2_hasEntriesOf 39 = .ok (.ireturn, 1) := by decide +kernel
theorem dX2_hasEntriesOf_40 : decode cX2_hasEntriesOf 40 = .ok (.iinc 2 1, 3) := by decide +kernel
theorem dX2_hasEntriesOf_43 : decode cX2_hasEntriesOf 43 = .ok (.goto (-41), 3) := by decide +kernel
theorem dX2_hasEntriesOf_46 : decode cX2_hasEntriesOf 46 = .ok (.iconst 1, 1) := by decide +kernel
theorem dX2_hasEntriesOf_47 : decode cX2_hasEntriesOf 47 = .ok (.ireturn, 1) := by decide +kernel
set_option maxRecDepth 20000 in
theorem ggX2_sameAs_X2_keyIn : GoodIn wsX2_sameAs wsX2_keyIn := goodIn_r _ [6, 7, 8, 9, 10, 5, 11, 1, 17, 18, 19] (by decide +kernel) (by decide +kernel)
set_option maxRecDepth 20000 in
theorem gX2_sameAs_X2_keyIn : GoodIn wsX2_sameAs (wsV RX2 26 RX2 yX2_keyIn wsX2_keyIn) := goodIn_app (goodIn_of _ (by decide +kernel)) ggX2_sameAs_X2_keyIn
set_option maxRecDepth 20000 in
theorem ggX2_sameAs_X2_valueIn : GoodIn wsX2_sameAs wsX2_valueIn := goodIn_r _ [15, 16, 8, 9, 10, 5, 11, 1, 7, 17, 18, 19] (by decide +kernel) (by decide +kernel)
set_option maxRecDepth 20000 in
theorem gX2_sameAs_X2_valueIn : GoodIn wsX2_sameAs (wsV RX2 38 RX2 yX2_valueIn wsX2_valueIn) := goodIn_app (goodIn_of _ (by decide +kernel)) ggX2_sameAs_X2_valueIn
theorem dX2_sameAs_0 : decode cX2_sameAs 0 = .ok (.aload_n 0, 1) := by decide +kernel
theorem dX2_sameAs_1 : decode cX2_sameAs 1 = .ok (.getfield 18, 3) := by decide +kernel
theorem dX2_sameAs_4 : decode cX2_sameAs 4 = .ok (.aload_n 1, 1) := by decide +kernel
theorem dX2_sameAs_5 : decode cX2_sameAs 5 = .ok (.getfield 18, 3) := by decide +kernel
theorem dX2_sameAs_8 : decode cX2_sameAs 8 = .ok (.if_icmp .eq 5, 3) := by decide +kernel
theorem dX2_sameAs_11 : decode cX2_sameAs 11 = .ok (.iconst 0, 1) := by decide +kernel
theorem dX2_sameAs_12 : decode cX2_sameAs 12 = .ok (.ireturn, 1) := by decide +kernel
theorem dX2_sameAs_13 : decode cX2_sameAs 13 = .ok (.iconst 0, 1) := by decide +kernel
theorem dX2_sameAs_14 : decode cX2_sameAs 14 = .ok (.istore_n 2, 1) := by decide +kernel
theorem dX2_sameAs_15 : decode cX2_sameAs 15 = .ok (.iload_n 2, 1) := by decide +kernel
theorem dX2_sameAs_16 : decode cX2_sameAs 16 = .ok (.aload_n 0, 1) := by decide +kernel
theorem dX2_sameAs_17 : decode cX2_sameAs 17 = .ok (.getfield 18, 3) := by decide +kernel
theorem dX2_sameAs_20 : decode cX2_sameAs 20 = .ok (.if_icmp .ge 37, 3) := by decide +kernel
theorem dX2_sameAs_23 : decode cX2_sameAs 23 = .ok (.aload_n 0, 1) := by decide +kernel
theorem dX2_sameAs_24 : decode cX2_sameAs 24 = .ok (.iload_n 2, 1) := by decide +kernel
theorem dX2_sameAs_25 : decode cX2_sameAs 25 = .ok (.invokevirtual 26, 3) := by decide +kernel
theorem dX2_sameAs_28 : decode cX2_sameAs 28 = .ok (.aload_n 1, 1) := by decide +kernel
theorem dX2_sameAs_29 : decode cX2_sameAs 29 = .ok (.iload_n 2, 1) := by decide +kernel
theorem dX2_sameAs_30 : decode cX2_sameAs 30 = .ok (.invokevirtual 26, 3) := by decide +kernel
theorem dX2_sameAs_33 : decode cX2_sameAs 33 = .ok (.if_icmp .ne 16, 3) := by decide +kernel
theorem dX2_sameAs_36 : decode cX2_sameAs 36 = .ok (.aload_n 0, 1) := by decide +kernel
theorem dX2_sameAs_37 : decode cX2_sameAs 37 = .ok (.iload_n 2, 1) := by decide +kernel
theorem dX2_sameAs_38 : decode cX2_sameAs 38 = .ok (.invokevirtual 38, 3) := by decide +kernel
theorem dX2_sameAs_41 : decode cX2_sameAs 41 = .ok (.aload_n 1, 1) := by decide +kernel
theorem dX2_sameAs_42 : decode cX2_sameAs 42 = .ok (.iload_n 2, 1) := by decide +kernel
theorem dX2_sameAs_43 : decode cX2_sameAs 43 = .ok (.invokevirtual 38, 3) := by decide +kernel
theorem dX2_sameAs_46 : decode cX2_sameAs 46 = .ok (.if_icmp .eq 5, 3) := by decide +kernel
theorem dX2_sameAs_49 : decode cX2_sameAs 49 = .ok (.iconst 0, 1) := by decide +kernel
theorem dX2_sameAs_50 : decode cX2_sameAs 50 = .ok (.ireturn, 1) := by decide +kernel
theorem dX2_sameAs_51 : decode cX2_sameAs 51 = .ok (.iinc 2 1, 3) := by decide +kernel
theorem dX2_sameAs_54 : decode cX2_sameAs 54 = .ok (.goto (-39), 3) := by decide +kernel
theorem dX2_sameAs_57 : decode cX2_sameAs 57 = .ok (.iconst 1, 1) := by decide +kernel
theorem dX2_sameAs_58 : decode cX2_sameAs 58 = .ok (.ireturn, 1) := by decide +kernel
theorem dX3_init_0 : decode cX3_init 0 = .ok (.aload_n 0, 1) := by decide +kernel
theorem dX3_init_1 : decode cX3_init 1 = .ok (.invokespecial 3, 3) := by decide +kernel
theorem dX3_init_4 : decode cX3_init 4 = .ok (.aload_n 0, 1) := by decide +kernel
theorem dX3_init_5 : decode cX3_init 5 = .ok (.iconst 0, 1) := by decide +kernel
theorem dX3_init_6 : decode cX3_init 6 = .ok (.putfield 9, 3) := by decide +kernel
theorem dX3_init_9 : decode cX3_init 9 = .ok (.aload_n 0, 1) := by decide +kernel
theorem dX3_init_10 : decode cX3_init 10 = .ok (.bipush 99, 2) := by decide +kernel
theorem dX3_init_12 : decode cX3_init 12 = .ok (.putfield 15, 3) := by decide +kernel
theorem dX3_init_15 : decode cX3_init 15 = .ok (.aload_n 0, 1) := by decide +kernel
theorem dX3_init_16 : decode cX3_init 16 = .ok (.iconst 0, 1) := by decide +kernel
theorem dX3_init_17 : decode cX3_init 17 = .ok (.putfield 19, 3) := by decide +kernel
theorem dX3_init_20 : decode cX3_init 20 = .ok (.aload_n 0, 1) := by decide +kernel
theorem dX3_init_21 : decode cX3_init 21 = .ok (.iconst 0, 1) := by decide +kernel
theorem dX3_init_22 : decode cX3_init 22 = .ok (.putfield 23, 3) := by decide +kernel
theorem dX3_init_25 : decode cX3_init 25 = .ok (.return_, 1) := by decide +kernel
theorem dX3_begin_0 : decode cX3_begin 0 = .ok (.aload_n 0, 1) := by decide +kernel
theorem dX3_begin_1 : decode cX3_begin 1 = .ok (.iconst 1, 1) := by decide +kernel
theorem dX3_begin_2 : decode cX3_begin 2 = .ok (.putfield 9, 3) := by decide +kernel
theorem dX3_begin_5 : decode cX3_begin 5 = .ok (.aload_n 0, 1) := by decide +kernel
theorem dX3_begin_6 : decode cX3_begin 6 = .ok (.iload_n 1, 1) := by decide +kernel
theorem dX3_begin_7 : decode cX3_begin 7 = .ok (.putfield 15, 3) := by decide +kernel
theorem dX3_begin_10 : decode cX3_begin 10 = .ok (.aload_n 0, 1) := by decide +kernel
theorem dX3_begin_11 : decode cX3_begin 11 = .ok (.iconst 0, 1) := by decide +kernel
theorem dX3_begin_12 : decode cX3_begin 12 = .ok (.putfield 19, 3) := by decide +kernel
theorem dX3_begin_15 : decode cX3_begin 15 = .ok (.aload_n 0, 1) := by decide +kernel
theorem dX3_begin_16 : decode cX3_begin 16 = .ok (.iconst 0, 1) := by decide +kernel
theorem dX3_begin_17 : decode cX3_begin 17 = .ok (.putfield 23, 3) := by decide +kernel
theorem dX3_begin_20 : decode cX3_begin 20 = .ok (.return_, 1) := by decide +kernel
theorem dX3_end_0 : decode cX3_end 0 = .ok (.aload_n 0, 1) := by decide +kernel
theorem dX3_end_1 : decode cX3_end 1 = .ok (.iconst 0, 1) := by decide +kernel
theorem dX3_end_2 : decode cX3_end 2 = .ok (.putfield 9, 3) := by decide +kernel
theorem dX3_end_5 : decode cX3_end 5 = .ok (.return_, 1) := by decide +kernel
theorem dX3_isOn_0 : decode cX3_isOn 0 = .ok (.aload_n 0, 1) := by decide +kernel
theorem dX3_isOn_1 : decode cX3_isOn 1 = .ok (.getfield 9, 3) := by decide +kernel
theorem dX3_isOn_4 : decode cX3_isOn 4 = .ok (.ireturn, 1) := by decide +kernel
theorem dX3_order_0 : decode cX3_order 0 = .ok (.aload_n 0, 1) := by decide +kernel
theorem dX3_order_1 : decode cX3_order 1 = .ok (.getfield 15, 3) := by decide +kernel
theorem dX3_order_4 : decode cX3_order 4 = .ok (.ireturn, 1) := by decide +kernel
theorem dX3_nextPlace_0 : decode cX3_nextPlace 0 = .ok (.aload_n 0, 1) := by decide +kernel
theorem dX3_nextPlace_1 : decode cX3_nextPlace 1 = .ok (.getfield 19, 3) := by decide +kernel
theorem dX3_nextPlace_4 : decode cX3_nextPlace 4 = .ok (.ireturn, 1) := by decide +kernel
theorem dX3_mayCut_0 : decode cX3_mayCut 0 = .ok (.aload_n 0, 1) := by decide +kernel
theorem dX3_mayCut_1 : decode cX3_mayCut 1 = .ok (.getfield 23, 3) := by decide +kernel
theorem dX3_mayCut_4 : decode cX3_mayCut 4 = .ok (.ireturn, 1) := by decide +kernel
theorem dX3_goOver_0 : decode cX3_goOver 0 = .ok (.aload_n 0, 1) := by decide +kernel
theorem dX3_goOver_1 : decode cX3_goOver 1 = .ok (.dup, 1) := by decide +kernel
theorem dX3_goOver_2 : decode cX3_goOver 2 = .ok (.getfield 19, 3) := by decide +kernel
theorem dX3_goOver_5 : decode cX3_goOver 5 = .ok (.iconst 1, 1) := by decide +kernel
theorem dX3_goOver_6 : decode cX3_goOver 6 = .ok (.iadd, 1) := by decide +kernel
theorem dX3_goOver_7 : decode cX3_goOver 7 = .ok (.putfield 19, 3) := by decide +kernel
theorem dX3_goOver_10 : decode cX3_goOver 10 = .ok (.aload_n 0, 1) := by decide +kernel
theorem dX3_goOver_11 : decode cX3_goOver 11 = .ok (.iconst 1, 1) := by decide +kernel
theorem dX3_goOver_12 : decode cX3_goOver 12 = .ok (.putfield 23, 3) := by decide +kernel
theorem dX3_goOver_15 : decode cX3_goOver 15 = .ok (.return_, 1) := by decide +kernel
theorem dX3_goBack_0 : decode cX3_goBack 0 = .ok (.aload_n 0, 1) := by decide +kernel
theorem dX3_goBack_1 : decode cX3_goBack 1 = .ok (.dup, 1) := by decide +kernel
theorem dX3_goBack_2 : decode cX3_goBack 2 = .ok (.getfield 19, 3) := by decide +kernel
theorem dX3_goBack_5 : decode cX3_goBack 5 = .ok (.iconst 1, 1) := by decide +kernel
theorem dX3_goBack_6 : decode cX3_goBack 6 = .ok (.isub, 1) := by decide +kernel
theorem dX3_goBack_7 : decode cX3_goBack 7 = .ok (.putfield 19, 3) := by decide +kernel
theorem dX3_goBack_10 : decode cX3_goBack 10 = .ok (.aload_n 0, 1) := by decide +kernel
theorem dX3_goBack_11 : decode cX3_goBack 11 = .ok (.iconst 0, 1) := by decide +kernel
theorem dX3_goBack_12 : decode cX3_goBack 12 = .ok (.putfield 23, 3) := by decide +kernel
theorem dX3_goBack_15 : decode cX3_goBack 15 = .ok (.return_, 1) := by decide +kernel
end
section
/-! worlds as lists of cells: a reference inside them is a place of the list; ad k is the address of place k -/
abbrev zw_E : Type := (Nat × vp_A) ⊕ (Nat × List Value)
def zw_cv (ad : Nat → Nat) (v : Value) : Value := match v with
  | .ref k => .ref (ad k)
  | v => v
def zw_cA (ad : Nat → Nat) (a : vp_A) : vp_A := match a.2 with
  | .inr (.inr (.inr (.inr f))) => (a.1, .inr (.inr (.inr (.inr (fun j => (f j).map ad)))))
  | _ => a
def zw_cE (dA : Nat → ClassId) (ad : Nat → Nat) (e : zw_E) : va_E := match e with
  | .inl x => .inl (dA x.1, zw_cA ad x.2)
  | .inr q => .inr (q.1, q.2.map (zw_cv ad))
def zw_of (dA : Nat → ClassId) (ad : Nat → Nat) (wl : List zw_E) : va_W := wl.mapIdx (fun k e => (ad k, zw_cE dA ad e))
theorem zw_of_get (dA : Nat → ClassId) (ad : Nat → Nat) (wl : List zw_E) (k : Nat) : (zw_of dA ad wl)[k]? = wl[k]?.map (fun e => (ad k, zw_cE dA ad e)) := List.getElem?_mapIdx
theorem zw_of_at {dA : Nat → ClassId} {ad : Nat → Nat} {wl : List zw_E} {k : Nat} {e : zw_E} (h : wl[k]? = some e) : (zw_of dA ad wl)[k]? = some (ad k, zw_cE dA ad e) := by rw [zw_of_get, h]; rfl
theorem zw_of_inv {dA : Nat → ClassId} {ad : Nat → Nat} {wl : List zw_E} {k : Nat} {q : Nat × va_E} (h : (zw_of dA ad wl)[k]? = some q) : ∃ e, wl[k]? = some e ∧ q = (ad k, zw_cE dA ad e) := by
  rw [zw_of_get] at h
  cases hw : wl[k]? with
  | none => rw [hw] at h; cases h
  | some e => rw [hw] at h; exact ⟨e, rfl, (Option.some.inj h).symm⟩
theorem zw_of_len (dA : Nat → ClassId) (ad : Nat → Nat) (wl : List zw_E) : (zw_of dA ad wl).length = wl.length := by simp [zw_of]
theorem zw_of_set (dA : Nat → ClassId) (ad : Nat → Nat) (wl : List zw_E) (k : Nat) (e : zw_E) : (zw_of dA ad wl).set k (ad k, zw_cE dA ad e) = zw_of dA ad (wl.set k e) := by
  apply List.ext_getElem?
  intro j
  rw [zw_of_get, List.getElem?_set, List.getElem?_set, zw_of_len]
  by_cases h : k = j
  · subst h
    by_cases hk : k < wl.length
    · simp [hk]
    · simp [hk]
  · rw [if_neg h, if_neg h, zw_of_get]
theorem zw_lt {wl : List zw_E} {k : Nat} {e : zw_E} (h : wl[k]? = some e) : k < wl.length := (List.getElem?_eq_some_iff.mp h).1
/-- the array classes: 0 int, 1 char, 2 long, 3 rows of pages, 4 rows of int rows -/
def zw_tys (dA : Nat → ClassId) : List (ClassId × FieldType) := [(dA 0, .int), (dA 1, .char), (dA 2, .long), (dA 3, .object "Twicebook$Page"), (dA 4, .array .int)]
def zw_aoa (U : State) : Prop := (Cond.arrayOver (.array .int)).before #[] U = true
theorem zw_aoaSpec {args : Array Value} {s : State} {t : FieldType} (h : (Cond.arrayOver (.array t)).before args s = true) :
    ∃ comp c k, s.vm.findClass (FieldType.array t).toString = some comp ∧ (s.vm.classes.findIdx? fun (x : Class) => match x.kind with | .array component _ => component == comp | _ => false) = some c ∧ s.vm.classes[c]? = some k ∧ k.kind = .array comp (.array t) ∧ s.vm.findClass ("[" ++ (FieldType.array t).toString) = some c := by
  simp only [Cond.before, Cond.holds, Cond.value, beq_iff_eq] at h
  cases hc : s.vm.findClass (FieldType.array t).toString with
  | none => simp [hc] at h
  | some comp =>
    simp only [hc, Option.bind_some, Option.bind_eq_some_iff, Option.map_eq_some_iff] at h
    obtain ⟨c, hi, k, hk, hb⟩ := h
    obtain ⟨hlt, hp, -⟩ := Array.findIdx?_eq_some_iff_getElem.mp hi
    have hkk : s.vm.classes[c] = k := (Array.getElem?_eq_some_iff.mp hk).2
    rw [hkk] at hp
    cases hkind : k.kind with
    | array component ty =>
      rw [hkind] at hb hp
      simp at hb hp
      exact ⟨comp, c, k, rfl, hi, hk, by rw [hkind, hp, hb.1], hb.2⟩
    | _ => rw [hkind] at hb; simp at hb
theorem zw_aoa.moved {u U : State} (hvm : u.vm.Alike U.vm) (h : zw_aoa u) : zw_aoa U := by
  obtain ⟨comp, c, k, h1, h2, h3, h4, h5⟩ := zw_aoaSpec h
  obtain ⟨k', hk', he⟩ := hvm.2.2 _ _ h3
  have hi : (U.vm.classes.findIdx? fun (x : Class) => match x.kind with | .array component _ => component == comp | _ => false) = some c := by
    have b1 := va_idx_bare U.vm comp
    have b2 := va_idx_bare u.vm comp
    have b3 : U.vm.bare = u.vm.bare := by first | exact hvm.bare_eq | exact hvm.bare_eq.symm
    rw [b3] at b1
    exact b1.symm.trans (b2.trans h2)
  have hkind : k'.kind = .array comp (.array .int) := by rw [he]; exact h4
  have f1 : U.vm.findClass (FieldType.array .int).toString = some comp := by rw [hvm.findClass]; exact h1
  have f2 : U.vm.findClass ("[" ++ (FieldType.array .int).toString) = some c := by rw [hvm.findClass]; exact h5
  unfold zw_aoa Cond.before Cond.holds
  simp only [Cond.value]
  rw [f1, Option.bind_some]
  refine (congrArg (fun o : Option Nat => (o.bind (fun c => (U.vm.classes[c]?).map fun (k : Class) => match k.kind with | .array _ ty => decide (ty = FieldType.array .int) && decide (U.vm.findClass ("[" ++ (FieldType.array .int).toString) = some c) | _ => false) == some true)) hi).trans ?_
  simp [hk', hkind, f2]
/-- words of the nest, texts, what can be cast and what can't -/
def zw_nests : List Cond := [.fieldLinkNest "Twicebook" 69 "Twicebook$Page" "coming" "LTwicebook$Row;" "Twicebook", .fieldLinkNest "Twicebook" 170 "Twicebook$Page" "asking" "LTwicebook$Row;" "Twicebook", .fieldLinkNest "Twicebook" 83 "Twicebook$Page" "most" "I" "Twicebook", .fieldLinkNest "Twicebook" 94 "Twicebook$Page" "eldestBy" "C" "Twicebook"]
def zw_strs : List (String × Nat × String) := [("Twicebook", 114, "the number is out of range"), ("Twicebook", 129, "there is no walk"), ("Twicebook", 144, "the walk has gone over all"), ("Twicebook", 153, "there is nothing to cut"), ("Twicebook", 167, "there is no such move"), ("Twicebook", 179, "no change is kept"), ("Twicebook", 211, "the key is out of range"), ("Twicebook", 213, "the key is not there"), ("Twicebook", 215, "there is no such order"), ("Twicebook", 217, "there is no such place"), ("Twicebook", 78, "the limit is out of range")]
abbrev zE_a : String := "java/lang/IllegalArgumentException"
abbrev zE_s : String := "java/lang/IllegalStateException"
abbrev zE_i : String := "java/lang/IndexOutOfBoundsException"
abbrev zE_n : String := "java/util/NoSuchElementException"
def zw_cast : List (String × String) := [(zE_a, zE_a), (zE_s, zE_s), (zE_i, zE_i), (zE_n, zE_n)]
def zw_noc : List (String × String) := [(zE_i, zE_a), (zE_n, zE_a), (zE_n, zE_s)]
def zw_K (D : va_G) (dA : Nat → ClassId) (U : State) : Prop :=
  va_K D vwCl (zw_tys dA) U ∧ (∀ q ∈ zw_strs, ∃ sa, vk_R q.1 q.2.1 q.2.2 sa U) ∧ (∀ w ∈ zw_nests, va_Nw w U) ∧ (∀ q ∈ zw_cast, va_Nw (.castable q.1 q.2) U) ∧ (∀ q ∈ zw_noc, va_Nc q.1 q.2 U) ∧ va_AO "Twicebook$Page" U ∧ zw_aoa U
theorem zw_K.warm {D : va_G} {dA : Nat → ClassId} {s U : State} (hW : s.WarmedH U.vm) (h : zw_K D dA s) : zw_K D dA U := by
  obtain ⟨h1, h2, h3, h4, h5, h6, h7⟩ := h
  refine ⟨va_K.moved hW.alike h1, fun q hq => ?_, fun w hw => ?_, fun q hq => va_Nw.warmC hW (h4 q hq), fun q hq => va_Nc.moved hW.alike (h5 q hq), va_AO.moved hW.alike h6, zw_aoa.moved hW.alike h7⟩
  · obtain ⟨sa, h⟩ := h2 q hq
    exact ⟨sa, vk_R.warm hW h⟩
  · have h9 := h3 w hw
    simp only [zw_nests, List.mem_cons, List.not_mem_nil, or_false] at hw
    rcases hw with rfl | rfl | rfl | rfl <;> exact va_Nw.warmF hW h9
theorem zw_K.same {D : va_G} {dA : Nat → ClassId} {s U : State} (hv : s.vm = U.vm) (h : zw_K D dA s) : zw_K D dA U := zw_K.warm (by rw [← hv]; exact State.WarmedH.refl s) h
def zw_Z (A : Nat → Prop) (U : State) (H : Heap) : Prop := vx_Zq Bundle.tN "UNASSIGNED_STACK" Bundle.steD A U H ∧ vx_Zq Bundle.tN "SUPPRESSED_SENTINEL" Bundle.listD A U H
/-- what a method may write: the cells of its world, and all that comes -/
def zw_A (ad : Nat → Nat) (n sz : Nat) : Nat → Prop := fun q => (∃ k, k < n ∧ q = ad k) ∨ sz ≤ q
/-- the locals -/
def zw_L (ls : Array Slot) (nL : Nat) (ad : Nat → Nat) (lv : List (Option Value)) : Prop := ls.size = nL ∧ lv_wf ls ∧ ∀ (i : Nat) (v : Value), lv[i]? = some (some v) → ls[i]? = some (.val (zw_cv ad v))
def zw_ok (lv : List (Option Value)) (i : Nat) : Bool := match i with
  | 0 => true
  | j + 1 => match lv[j]? with
    | some (some (.long _)) => false
    | some (some (.double _)) => false
    | _ => true
def zw_ents (ad : Nat → Nat) (lv : List (Option Value)) : List (Nat × Value) := (List.range lv.length).filterMap (fun i => (lv[i]?).bind (fun z => z.map (fun v => (i, zw_cv ad v))))
theorem zw_ents_mem {ad : Nat → Nat} {lv : List (Option Value)} {q : Nat × Value} : q ∈ zw_ents ad lv ↔ ∃ v, lv[q.1]? = some (some v) ∧ q.2 = zw_cv ad v := by
  unfold zw_ents
  rw [List.mem_filterMap]
  constructor
  · rintro ⟨i, -, h⟩
    cases hz : lv[i]? with
    | none => rw [hz] at h; cases h
    | some z =>
      rw [hz] at h
      cases z with
      | none => cases h
      | some v =>
        cases h
        exact ⟨v, hz, rfl⟩
  · rintro ⟨v, h1, h2⟩
    refine ⟨q.1, List.mem_range.mpr (List.getElem?_eq_some_iff.mp h1).1, ?_⟩
    rw [h1]
    show some (q.1, zw_cv ad v) = some q
    rw [← h2]
theorem zw_L.has {ls : Array Slot} {nL : Nat} {ad : Nat → Nat} {lv : List (Option Value)} (h : zw_L ls nL ad lv) : lv_has ls nL (zw_ents ad lv) := ⟨h.1, h.2.1, fun q hq => by
  obtain ⟨v, h1, h2⟩ := zw_ents_mem.mp hq
  rw [h2]
  exact h.2.2 _ _ h1⟩
theorem zw_cv_cat (ad : Nat → Nat) (v : Value) : (zw_cv ad v).category = v.category := by cases v <;> rfl
theorem zw_L.set1 {ls : Array Slot} {nL i : Nat} {ad : Nat → Nat} {lv : List (Option Value)} {v : Value} (ok : zw_ok lv i = true) (h : lv_has ls nL ((i, zw_cv ad v) :: (zw_ents ad lv).filter (fun q => !(q.1 == i) && !(q.1 + 1 == i && q.2.category == 2)))) : zw_L ls nL ad (lv.set i (some v)) := by
  refine ⟨h.1, h.2.1, fun j w hw => ?_⟩
  rw [List.getElem?_set] at hw
  by_cases e : i = j
  · subst e
    rw [if_pos rfl] at hw
    split at hw
    · cases hw
      exact h.2.2 (i, zw_cv ad v) List.mem_cons_self
    · cases hw
  · rw [if_neg e] at hw
    refine h.2.2 (j, zw_cv ad w) (List.mem_cons_of_mem _ (List.mem_filter.mpr ⟨zw_ents_mem.mpr ⟨w, hw, rfl⟩, ?_⟩))
    have e1 : (j == i) = false := by simp; exact fun q => e q.symm
    rw [e1]
    by_cases e2 : j + 1 = i
    · subst e2
      unfold zw_ok at ok
      dsimp only at ok
      rw [hw] at ok
      rw [zw_cv_cat]
      cases w <;> simp_all [Value.category]
    · have e3 : (j + 1 == i) = false := by simp; exact e2
      simp [e3]
theorem zw_L.set2 {ls : Array Slot} {nL i : Nat} {ad : Nat → Nat} {lv : List (Option Value)} {x : Int64} (ok : zw_ok lv i = true) (h : lv_has ls nL ((i, Value.long x) :: (zw_ents ad lv).filter (fun q => !(q.1 == i) && (!(q.1 == i + 1) && !(q.1 + 1 == i && q.2.category == 2))))) : zw_L ls nL ad ((lv.set i (some (.long x))).set (i + 1) none) := by
  refine ⟨h.1, h.2.1, fun j w hw => ?_⟩
  rw [List.getElem?_set] at hw
  by_cases e0 : i + 1 = j
  · rw [if_pos e0] at hw
    split at hw <;> cases hw
  · rw [if_neg e0, List.getElem?_set] at hw
    by_cases e : i = j
    · subst e
      rw [if_pos rfl] at hw
      split at hw
      · cases hw
        exact h.2.2 (i, Value.long x) List.mem_cons_self
      · cases hw
    · rw [if_neg e] at hw
      refine h.2.2 (j, zw_cv ad w) (List.mem_cons_of_mem _ (List.mem_filter.mpr ⟨zw_ents_mem.mpr ⟨w, hw, rfl⟩, ?_⟩))
      have e1 : (j == i) = false := by simp; exact fun q => e q.symm
      have e4 : (j == i + 1) = false := by simp; exact fun q => e0 q.symm
      rw [e1]
      by_cases e2 : j + 1 = i
      · subst e2
        unfold zw_ok at ok
        dsimp only at ok
        rw [hw] at ok
        rw [zw_cv_cat]
        cases w <;> simp_all [Value.category]
      · have e3 : (j + 1 == i) = false := by simp; exact e2
        simp only [e3, e4]
        rfl
/-- what a body stands on: the machine, the code, the words, the classes -/
def zw_B (p : Program) (l : Launch) (s : State) (m : MethodId) (args : Array Value) (meth : Method) (c : Code) (cc : ByteArray) (nL : Nat) (ret : Option FieldType) (own nm : String) (Ts : List Cond) (tb : List ExceptionTableEntry) (D : va_G) (dA : Nat → ClassId) (A : Nat → Prop) : Prop :=
  p.tables.exec = Jvm.exec ∧ c.code = cc ∧ meth.sig.returnType = ret ∧ c.maxLocals = nL ∧ s.vm.findClass own = some m.cls ∧ (∀ w ∈ Ts, w.before args s = true) ∧ zw_K D dA s ∧ zw_Z A s s.heap ∧ meth.locks = false ∧ (∀ q : Nat, s.heap.size ≤ q → A q) ∧ l.stackTraces = false ∧ c.exceptionTable.toList = tb ∧ meth.name = nm
/-- a walk from a frame over a world -/
def zw_k (p : Program) (l : Launch) (e : Env) (R : Room) (s : State) (m : MethodId) (args : Array Value) (below : List Frame) (meth : Method) (c : Code) (Q : State → Prop) (D : va_G) (dA : Nat → ClassId) (A : Nat → Prop) (ad0 : Nat → Nat) (n0 nL : Nat) (cells slots : Nat) (wl : List zw_E) (pc : Nat) (lv : List (Option Value)) (st : List Value) : Prop :=
  ∀ (ad : Nat → Nat) (H : Heap) (locs : List Loc) (ls : Array Slot), (∀ k, k < n0 → ad k = ad0 k) → (wl.length = n0 → ad = ad0) → n0 ≤ wl.length → va_P D vwCl (zw_of dA ad wl) H → va_D A (zw_of dA ad wl) → va_S A s.heap H locs → zw_L ls nL ad lv → W p l e R s m args below meth c H locs cells slots Q (F0 m pc ls (st.map (zw_cv ad)))
section ZS
variable {p : Program} {l : Launch} {e : Env} {R : Room} {s : State} {m : MethodId} {args : Array Value} {below : List Frame} {meth : Method} {c : Code} {Q : State → Prop} {cc : ByteArray} {nL : Nat} {ret : Option FieldType} {own nm : String} {Ts : List Cond} {tb : List ExceptionTableEntry} {D : va_G} {dA : Nat → ClassId} {A : Nat → Prop} {ad0 : Nat → Nat} {n0 cells slots pc : Nat} {wl : List zw_E} {lv : List (Option Value)} {st : List Value}
theorem zs_iconst (B : zw_B p l s m args meth c cc nL ret own nm Ts tb D dA A) {n : Int} {v : Int32} (hdg : decode cc pc = .ok (.iconst n, 1)) (hv : Int32.ofInt n = v) (kk : zw_k p l e R s m args below meth c Q D dA A ad0 n0 nL cells slots wl (pc + 1) lv (.int v :: st)) : zw_k p l e R s m args below meth c Q D dA A ad0 n0 nL cells slots wl pc lv (st) := fun ad H locs ls a1 a2 a3 hP hD hS hl => lv_iconst B.1 B.2.1 hdg hv (kk ad H locs ls a1 a2 a3 hP hD hS hl)
theorem zs_bipush (B : zw_B p l s m args meth c cc nL ret own nm Ts tb D dA A) {n : Int} {v : Int32} (hdg : decode cc pc = .ok (.bipush n, 2)) (hv : (Int8.ofInt n).toInt32 = v) (kk : zw_k p l e R s m args below meth c Q D dA A ad0 n0 nL cells slots wl (pc + 2) lv (.int v :: st)) : zw_k p l e R s m args below meth c Q D dA A ad0 n0 nL cells slots wl pc lv (st) := fun ad H locs ls a1 a2 a3 hP hD hS hl => lv_bipush B.1 B.2.1 hdg hv (kk ad H locs ls a1 a2 a3 hP hD hS hl)
theorem zs_lconst (B : zw_B p l s m args meth c cc nL ret own nm Ts tb D dA A) {n : Fin 2} {v : Int64} (hdg : decode cc pc = .ok (.lconst n, 1)) (hv : Int64.ofNat (n : Nat) = v) (kk : zw_k p l e R s m args below meth c Q D dA A ad0 n0 nL cells slots wl (pc + 1) lv (.long v :: st)) : zw_k p l e R s m args below meth c Q D dA A ad0 n0 nL cells slots wl pc lv (st) := fun ad H locs ls a1 a2 a3 hP hD hS hl => lv_lconst B.1 B.2.1 hdg hv (kk ad H locs ls a1 a2 a3 hP hD hS hl)
theorem zs_ldc2 (B : zw_B p l s m args meth c cc nL ret own nm Ts tb D dA A) {index : Nat} {v : Int64} (hdg : decode cc pc = .ok (.ldc2_w index, 3)) (hw : Jvm.Cond.constantLong own index v ∈ Ts) (kk : zw_k p l e R s m args below meth c Q D dA A ad0 n0 nL cells slots wl (pc + 3) lv (.long v :: st)) : zw_k p l e R s m args below meth c Q D dA A ad0 n0 nL cells slots wl pc lv (st) := fun ad H locs ls a1 a2 a3 hP hD hS hl => lv_ldc2 B.1 B.2.1 B.2.2.2.2.1 (B.2.2.2.2.2.1 _ hw) hdg (kk ad H locs ls a1 a2 a3 hP hD hS hl)
theorem zs_iload_n (B : zw_B p l s m args meth c cc nL ret own nm Ts tb D dA A) {k : Fin 4} {i : Nat} {x : Int32} (hdg : decode cc pc = .ok (.iload_n k, 1)) (hi : (k : Nat) = i) (hx : lv[i]? = some (some (.int x))) (kk : zw_k p l e R s m args below meth c Q D dA A ad0 n0 nL cells slots wl (pc + 1) lv (.int x :: st)) : zw_k p l e R s m args below meth c Q D dA A ad0 n0 nL cells slots wl pc lv (st) := fun ad H locs ls a1 a2 a3 hP hD hS hl => lv_iload_n B.1 B.2.1 hdg hi (hl.2.2 _ _ hx) (kk ad H locs ls a1 a2 a3 hP hD hS hl)
theorem zs_iload (B : zw_B p l s m args meth c cc nL ret own nm Ts tb D dA A) {i : Nat} {x : Int32} (hdg : decode cc pc = .ok (.iload i, 2)) (hx : lv[i]? = some (some (.int x))) (kk : zw_k p l e R s m args below meth c Q D dA A ad0 n0 nL cells slots wl (pc + 2) lv (.int x :: st)) : zw_k p l e R s m args below meth c Q D dA A ad0 n0 nL cells slots wl pc lv (st) := fun ad H locs ls a1 a2 a3 hP hD hS hl => lv_iload B.1 B.2.1 hdg (hl.2.2 _ _ hx) (kk ad H locs ls a1 a2 a3 hP hD hS hl)
theorem zs_lload_n (B : zw_B p l s m args meth c cc nL ret own nm Ts tb D dA A) {k : Fin 4} {i : Nat} {x : Int64} (hdg : decode cc pc = .ok (.lload_n k, 1)) (hi : (k : Nat) = i) (hx : lv[i]? = some (some (.long x))) (kk : zw_k p l e R s m args below meth c Q D dA A ad0 n0 nL cells slots wl (pc + 1) lv (.long x :: st)) : zw_k p l e R s m args below meth c Q D dA A ad0 n0 nL cells slots wl pc lv (st) := fun ad H locs ls a1 a2 a3 hP hD hS hl => lv_lload_n B.1 B.2.1 hdg hi (hl.2.2 _ _ hx) (kk ad H locs ls a1 a2 a3 hP hD hS hl)
theorem zs_lload (B : zw_B p l s m args meth c cc nL ret own nm Ts tb D dA A) {i : Nat} {x : Int64} (hdg : decode cc pc = .ok (.lload i, 2)) (hx : lv[i]? = some (some (.long x))) (kk : zw_k p l e R s m args below meth c Q D dA A ad0 n0 nL cells slots wl (pc + 2) lv (.long x :: st)) : zw_k p l e R s m args below meth c Q D dA A ad0 n0 nL cells slots wl pc lv (st) := fun ad H locs ls a1 a2 a3 hP hD hS hl => lv_lload B.1 B.2.1 hdg (hl.2.2 _ _ hx) (kk ad H locs ls a1 a2 a3 hP hD hS hl)
theorem zs_aload_n (B : zw_B p l s m args meth c cc nL ret own nm Ts tb D dA A) {k : Fin 4} {i x : Nat} (hdg : decode cc pc = .ok (.aload_n k, 1)) (hi : (k : Nat) = i) (hx : lv[i]? = some (some (.ref x))) (kk : zw_k p l e R s m args below meth c Q D dA A ad0 n0 nL cells slots wl (pc + 1) lv (.ref x :: st)) : zw_k p l e R s m args below meth c Q D dA A ad0 n0 nL cells slots wl pc lv (st) := fun ad H locs ls a1 a2 a3 hP hD hS hl => lv_aload_n B.1 B.2.1 hdg hi (hl.2.2 _ _ hx) (kk ad H locs ls a1 a2 a3 hP hD hS hl)
theorem zs_aload (B : zw_B p l s m args meth c cc nL ret own nm Ts tb D dA A) {i x : Nat} (hdg : decode cc pc = .ok (.aload i, 2)) (hx : lv[i]? = some (some (.ref x))) (kk : zw_k p l e R s m args below meth c Q D dA A ad0 n0 nL cells slots wl (pc + 2) lv (.ref x :: st)) : zw_k p l e R s m args below meth c Q D dA A ad0 n0 nL cells slots wl pc lv (st) := fun ad H locs ls a1 a2 a3 hP hD hS hl => lv_aload B.1 B.2.1 hdg (hl.2.2 _ _ hx) (kk ad H locs ls a1 a2 a3 hP hD hS hl)
theorem zs_istore_n (B : zw_B p l s m args meth c cc nL ret own nm Ts tb D dA A) {k : Fin 4} {i : Nat} {x : Int32} (hdg : decode cc pc = .ok (.istore_n k, 1)) (hi : (k : Nat) = i) (hn : i < nL) (ok : zw_ok lv i = true) (kk : zw_k p l e R s m args below meth c Q D dA A ad0 n0 nL cells slots wl (pc + 1) (lv.set i (some (.int x))) st) : zw_k p l e R s m args below meth c Q D dA A ad0 n0 nL cells slots wl pc lv (.int x :: st) := fun ad H locs ls a1 a2 a3 hP hD hS hl => lv_istore_n B.1 B.2.1 hdg hi hl.has hn rfl (fun ls' hl' => kk ad H locs ls' a1 a2 a3 hP hD hS (zw_L.set1 ok hl'))
theorem zs_istore (B : zw_B p l s m args meth c cc nL ret own nm Ts tb D dA A) {i : Nat} {x : Int32} (hdg : decode cc pc = .ok (.istore i, 2)) (hn : i < nL) (ok : zw_ok lv i = true) (kk : zw_k p l e R s m args below meth c Q D dA A ad0 n0 nL cells slots wl (pc + 2) (lv.set i (some (.int x))) st) : zw_k p l e R s m args below meth c Q D dA A ad0 n0 nL cells slots wl pc lv (.int x :: st) := fun ad H locs ls a1 a2 a3 hP hD hS hl => lv_istore B.1 B.2.1 hdg hl.has hn rfl (fun ls' hl' => kk ad H locs ls' a1 a2 a3 hP hD hS (zw_L.set1 ok hl'))
theorem zs_lstore_n (B : zw_B p l s m args meth c cc nL ret own nm Ts tb D dA A) {k : Fin 4} {i : Nat} {x : Int64} (hdg : decode cc pc = .ok (.lstore_n k, 1)) (hi : (k : Nat) = i) (hn : i + 1 < nL) (ok : zw_ok lv i = true) (kk : zw_k p l e R s m args below meth c Q D dA A ad0 n0 nL cells slots wl (pc + 1) ((lv.set i (some (.long x))).set (i + 1) none) st) : zw_k p l e R s m args below meth c Q D dA A ad0 n0 nL cells slots wl pc lv (.long x :: st) := fun ad H locs ls a1 a2 a3 hP hD hS hl => lv_lstore_n B.1 B.2.1 hdg hi hl.has hn rfl (fun ls' hl' => kk ad H locs ls' a1 a2 a3 hP hD hS (zw_L.set2 ok hl'))
theorem zs_lstore (B : zw_B p l s m args meth c cc nL ret own nm Ts tb D dA A) {i : Nat} {x : Int64} (hdg : decode cc pc = .ok (.lstore i, 2)) (hn : i + 1 < nL) (ok : zw_ok lv i = true) (kk : zw_k p l e R s m args below meth c Q D dA A ad0 n0 nL cells slots wl (pc + 2) ((lv.set i (some (.long x))).set (i + 1) none) st) : zw_k p l e R s m args below meth c Q D dA A ad0 n0 nL cells slots wl pc lv (.long x :: st) := fun ad H locs ls a1 a2 a3 hP hD hS hl => lv_lstore B.1 B.2.1 hdg hl.has hn rfl (fun ls' hl' => kk ad H locs ls' a1 a2 a3 hP hD hS (zw_L.set2 ok hl'))
theorem zs_astore_n (B : zw_B p l s m args meth c cc nL ret own nm Ts tb D dA A) {k : Fin 4} {i x : Nat} (hdg : decode cc pc = .ok (.astore_n k, 1)) (hi : (k : Nat) = i) (hn : i < nL) (ok : zw_ok lv i = true) (kk : zw_k p l e R s m args below meth c Q D dA A ad0 n0 nL cells slots wl (pc + 1) (lv.set i (some (.ref x))) st) : zw_k p l e R s m args below meth c Q D dA A ad0 n0 nL cells slots wl pc lv (.ref x :: st) := fun ad H locs ls a1 a2 a3 hP hD hS hl => lv_astore_n B.1 B.2.1 hdg hi hl.has hn rfl (fun ls' hl' => kk ad H locs ls' a1 a2 a3 hP hD hS (zw_L.set1 ok hl'))
theorem zs_astore (B : zw_B p l s m args meth c cc nL ret own nm Ts tb D dA A) {i x : Nat} (hdg : decode cc pc = .ok (.astore i, 2)) (hn : i < nL) (ok : zw_ok lv i = true) (kk : zw_k p l e R s m args below meth c Q D dA A ad0 n0 nL cells slots wl (pc + 2) (lv.set i (some (.ref x))) st) : zw_k p l e R s m args below meth c Q D dA A ad0 n0 nL cells slots wl pc lv (.ref x :: st) := fun ad H locs ls a1 a2 a3 hP hD hS hl => lv_astore B.1 B.2.1 hdg hl.has hn rfl (fun ls' hl' => kk ad H locs ls' a1 a2 a3 hP hD hS (zw_L.set1 ok hl'))
theorem zs_iinc (B : zw_B p l s m args meth c cc nL ret own nm Ts tb D dA A) {i : Nat} {n : Int} {x v : Int32} (hdg : decode cc pc = .ok (.iinc i n, 3)) (hx : lv[i]? = some (some (.int x))) (hv : x + Int32.ofInt n = v) (hn : i < nL) (ok : zw_ok lv i = true) (kk : zw_k p l e R s m args below meth c Q D dA A ad0 n0 nL cells slots wl (pc + 3) (lv.set i (some (.int v))) st) : zw_k p l e R s m args below meth c Q D dA A ad0 n0 nL cells slots wl pc lv st := fun ad H locs ls a1 a2 a3 hP hD hS hl => by
  obtain ⟨k, hk⟩ := List.getElem?_of_mem (zw_ents_mem (ad := ad) (lv := lv) (q := (i, .int x)) |>.mpr ⟨.int x, hx, rfl⟩)
  exact lv_iinc B.1 B.2.1 hdg hl.has hk hv hn rfl (fun ls' hl' => kk ad H locs ls' a1 a2 a3 hP hD hS (zw_L.set1 (v := .int v) ok hl'))
theorem zs_iadd (B : zw_B p l s m args meth c cc nL ret own nm Ts tb D dA A) {x y : Int32} (hdg : decode cc pc = .ok (.iadd, 1))  (kk : zw_k p l e R s m args below meth c Q D dA A ad0 n0 nL cells slots wl (pc + 1) lv (.int (x + y) :: st)) : zw_k p l e R s m args below meth c Q D dA A ad0 n0 nL cells slots wl pc lv (.int y :: .int x :: st) := fun ad H locs ls a1 a2 a3 hP hD hS hl => lv_iadd B.1 B.2.1 hdg (kk ad H locs ls a1 a2 a3 hP hD hS hl)
theorem zs_isub (B : zw_B p l s m args meth c cc nL ret own nm Ts tb D dA A) {x y : Int32} (hdg : decode cc pc = .ok (.isub, 1))  (kk : zw_k p l e R s m args below meth c Q D dA A ad0 n0 nL cells slots wl (pc + 1) lv (.int (x - y) :: st)) : zw_k p l e R s m args below meth c Q D dA A ad0 n0 nL cells slots wl pc lv (.int y :: .int x :: st) := fun ad H locs ls a1 a2 a3 hP hD hS hl => lv_isub B.1 B.2.1 hdg (kk ad H locs ls a1 a2 a3 hP hD hS hl)
theorem zs_imul (B : zw_B p l s m args meth c cc nL ret own nm Ts tb D dA A) {x y : Int32} (hdg : decode cc pc = .ok (.imul, 1))  (kk : zw_k p l e R s m args below meth c Q D dA A ad0 n0 nL cells slots wl (pc + 1) lv (.int (x * y) :: st)) : zw_k p l e R s m args below meth c Q D dA A ad0 n0 nL cells slots wl pc lv (.int y :: .int x :: st) := fun ad H locs ls a1 a2 a3 hP hD hS hl => lv_imul B.1 B.2.1 hdg (kk ad H locs ls a1 a2 a3 hP hD hS hl)
theorem zs_iand (B : zw_B p l s m args meth c cc nL ret own nm Ts tb D dA A) {x y : Int32} (hdg : decode cc pc = .ok (.iand, 1))  (kk : zw_k p l e R s m args below meth c Q D dA A ad0 n0 nL cells slots wl (pc + 1) lv (.int (x &&& y) :: st)) : zw_k p l e R s m args below meth c Q D dA A ad0 n0 nL cells slots wl pc lv (.int y :: .int x :: st) := fun ad H locs ls a1 a2 a3 hP hD hS hl => lv_iand B.1 B.2.1 hdg (kk ad H locs ls a1 a2 a3 hP hD hS hl)
theorem zs_idiv (B : zw_B p l s m args meth c cc nL ret own nm Ts tb D dA A) {x y : Int32} (hdg : decode cc pc = .ok (.idiv, 1)) (hne : ¬ y = 0) (kk : zw_k p l e R s m args below meth c Q D dA A ad0 n0 nL cells slots wl (pc + 1) lv (.int (x / y) :: st)) : zw_k p l e R s m args below meth c Q D dA A ad0 n0 nL cells slots wl pc lv (.int y :: .int x :: st) := fun ad H locs ls a1 a2 a3 hP hD hS hl => lv_idiv B.1 B.2.1 hdg hne (kk ad H locs ls a1 a2 a3 hP hD hS hl)
theorem zs_ladd (B : zw_B p l s m args meth c cc nL ret own nm Ts tb D dA A) {x y : Int64} (hdg : decode cc pc = .ok (.ladd, 1))  (kk : zw_k p l e R s m args below meth c Q D dA A ad0 n0 nL cells slots wl (pc + 1) lv (.long (x + y) :: st)) : zw_k p l e R s m args below meth c Q D dA A ad0 n0 nL cells slots wl pc lv (.long y :: .long x :: st) := fun ad H locs ls a1 a2 a3 hP hD hS hl => lv_ladd B.1 B.2.1 hdg (kk ad H locs ls a1 a2 a3 hP hD hS hl)
theorem zs_lmul (B : zw_B p l s m args meth c cc nL ret own nm Ts tb D dA A) {x y : Int64} (hdg : decode cc pc = .ok (.lmul, 1))  (kk : zw_k p l e R s m args below meth c Q D dA A ad0 n0 nL cells slots wl (pc + 1) lv (.long (x * y) :: st)) : zw_k p l e R s m args below meth c Q D dA A ad0 n0 nL cells slots wl pc lv (.long y :: .long x :: st) := fun ad H locs ls a1 a2 a3 hP hD hS hl => lv_lmul B.1 B.2.1 hdg (kk ad H locs ls a1 a2 a3 hP hD hS hl)
theorem zs_lcmp (B : zw_B p l s m args meth c cc nL ret own nm Ts tb D dA A) {x y : Int64} (hdg : decode cc pc = .ok (.lcmp, 1))  (kk : zw_k p l e R s m args below meth c Q D dA A ad0 n0 nL cells slots wl (pc + 1) lv (.int (lg_cmp x y) :: st)) : zw_k p l e R s m args below meth c Q D dA A ad0 n0 nL cells slots wl pc lv (.long y :: .long x :: st) := fun ad H locs ls a1 a2 a3 hP hD hS hl => W.lcmp B.1 B.2.1 hdg (kk ad H locs ls a1 a2 a3 hP hD hS hl)
theorem zs_i2l (B : zw_B p l s m args meth c cc nL ret own nm Ts tb D dA A) {x : Int32} (hdg : decode cc pc = .ok (.i2l, 1))  (kk : zw_k p l e R s m args below meth c Q D dA A ad0 n0 nL cells slots wl (pc + 1) lv (.long x.toInt64 :: st)) : zw_k p l e R s m args below meth c Q D dA A ad0 n0 nL cells slots wl pc lv (.int x :: st) := fun ad H locs ls a1 a2 a3 hP hD hS hl => lv_i2l B.1 B.2.1 hdg rfl (kk ad H locs ls a1 a2 a3 hP hD hS hl)
theorem zs_i2c (B : zw_B p l s m args meth c cc nL ret own nm Ts tb D dA A) {x : Int32} (hdg : decode cc pc = .ok (.i2c, 1))  (kk : zw_k p l e R s m args below meth c Q D dA A ad0 n0 nL cells slots wl (pc + 1) lv (.int (x.toUInt32 % 65536).toInt32 :: st)) : zw_k p l e R s m args below meth c Q D dA A ad0 n0 nL cells slots wl pc lv (.int x :: st) := fun ad H locs ls a1 a2 a3 hP hD hS hl => lv_i2c B.1 B.2.1 hdg rfl (kk ad H locs ls a1 a2 a3 hP hD hS hl)
theorem zs_dup (B : zw_B p l s m args meth c cc nL ret own nm Ts tb D dA A) {v : Value} (hdg : decode cc pc = .ok (.dup, 1)) (hv : v.category = 1) (kk : zw_k p l e R s m args below meth c Q D dA A ad0 n0 nL cells slots wl (pc + 1) lv (v :: v :: st)) : zw_k p l e R s m args below meth c Q D dA A ad0 n0 nL cells slots wl pc lv (v :: st) := fun ad H locs ls a1 a2 a3 hP hD hS hl => lv_dup B.1 B.2.1 hdg (by rw [zw_cv_cat]; exact hv) (kk ad H locs ls a1 a2 a3 hP hD hS hl)
theorem zs_pop (B : zw_B p l s m args meth c cc nL ret own nm Ts tb D dA A) {v : Value} (hdg : decode cc pc = .ok (.pop, 1)) (hv : v.category = 1) (kk : zw_k p l e R s m args below meth c Q D dA A ad0 n0 nL cells slots wl (pc + 1) lv (st)) : zw_k p l e R s m args below meth c Q D dA A ad0 n0 nL cells slots wl pc lv (v :: st) := fun ad H locs ls a1 a2 a3 hP hD hS hl => lv_pop B.1 B.2.1 hdg (by rw [zw_cv_cat]; exact hv) (kk ad H locs ls a1 a2 a3 hP hD hS hl)
theorem zs_icmp_eq (B : zw_B p l s m args meth c cc nL ret own nm Ts tb D dA A) {x y : Int32} {off : Int} {tgt : Nat} (hdg : decode cc pc = .ok (.if_icmp .eq off, 3)) (ht : (pc : Int) + off = (tgt : Int)) (kt : x = y → zw_k p l e R s m args below meth c Q D dA A ad0 n0 nL cells slots wl tgt lv st) (kf : ¬ x = y → zw_k p l e R s m args below meth c Q D dA A ad0 n0 nL cells slots wl (pc + 3) lv st) : zw_k p l e R s m args below meth c Q D dA A ad0 n0 nL cells slots wl pc lv (.int y :: .int x :: st) := fun ad H locs ls a1 a2 a3 hP hD hS hl => lv_icmp_eq B.1 B.2.1 hdg ht (fun q => kt q ad H locs ls a1 a2 a3 hP hD hS hl) (fun q => kf q ad H locs ls a1 a2 a3 hP hD hS hl)
theorem zs_if_eq (B : zw_B p l s m args meth c cc nL ret own nm Ts tb D dA A) {x : Int32} {off : Int} {tgt : Nat} (hdg : decode cc pc = .ok (.ifCond .eq off, 3)) (ht : (pc : Int) + off = (tgt : Int)) (kt : x = 0 → zw_k p l e R s m args below meth c Q D dA A ad0 n0 nL cells slots wl tgt lv st) (kf : ¬ x = 0 → zw_k p l e R s m args below meth c Q D dA A ad0 n0 nL cells slots wl (pc + 3) lv st) : zw_k p l e R s m args below meth c Q D dA A ad0 n0 nL cells slots wl pc lv (.int x :: st) := fun ad H locs ls a1 a2 a3 hP hD hS hl => lv_if_eq B.1 B.2.1 hdg ht (fun q => kt q ad H locs ls a1 a2 a3 hP hD hS hl) (fun q => kf q ad H locs ls a1 a2 a3 hP hD hS hl)
theorem zs_icmp_ne (B : zw_B p l s m args meth c cc nL ret own nm Ts tb D dA A) {x y : Int32} {off : Int} {tgt : Nat} (hdg : decode cc pc = .ok (.if_icmp .ne off, 3)) (ht : (pc : Int) + off = (tgt : Int)) (kt : ¬ x = y → zw_k p l e R s m args below meth c Q D dA A ad0 n0 nL cells slots wl tgt lv st) (kf : x = y → zw_k p l e R s m args below meth c Q D dA A ad0 n0 nL cells slots wl (pc + 3) lv st) : zw_k p l e R s m args below meth c Q D dA A ad0 n0 nL cells slots wl pc lv (.int y :: .int x :: st) := fun ad H locs ls a1 a2 a3 hP hD hS hl => lv_icmp_ne B.1 B.2.1 hdg ht (fun q => kt q ad H locs ls a1 a2 a3 hP hD hS hl) (fun q => kf q ad H locs ls a1 a2 a3 hP hD hS hl)
theorem zs_if_ne (B : zw_B p l s m args meth c cc nL ret own nm Ts tb D dA A) {x : Int32} {off : Int} {tgt : Nat} (hdg : decode cc pc = .ok (.ifCond .ne off, 3)) (ht : (pc : Int) + off = (tgt : Int)) (kt : ¬ x = 0 → zw_k p l e R s m args below meth c Q D dA A ad0 n0 nL cells slots wl tgt lv st) (kf : x = 0 → zw_k p l e R s m args below meth c Q D dA A ad0 n0 nL cells slots wl (pc + 3) lv st) : zw_k p l e R s m args below meth c Q D dA A ad0 n0 nL cells slots wl pc lv (.int x :: st) := fun ad H locs ls a1 a2 a3 hP hD hS hl => lv_if_ne B.1 B.2.1 hdg ht (fun q => kt q ad H locs ls a1 a2 a3 hP hD hS hl) (fun q => kf q ad H locs ls a1 a2 a3 hP hD hS hl)
theorem zs_icmp_lt (B : zw_B p l s m args meth c cc nL ret own nm Ts tb D dA A) {x y : Int32} {off : Int} {tgt : Nat} (hdg : decode cc pc = .ok (.if_icmp .lt off, 3)) (ht : (pc : Int) + off = (tgt : Int)) (kt : x < y → zw_k p l e R s m args below meth c Q D dA A ad0 n0 nL cells slots wl tgt lv st) (kf : ¬ x < y → zw_k p l e R s m args below meth c Q D dA A ad0 n0 nL cells slots wl (pc + 3) lv st) : zw_k p l e R s m args below meth c Q D dA A ad0 n0 nL cells slots wl pc lv (.int y :: .int x :: st) := fun ad H locs ls a1 a2 a3 hP hD hS hl => lv_icmp_lt B.1 B.2.1 hdg ht (fun q => kt q ad H locs ls a1 a2 a3 hP hD hS hl) (fun q => kf q ad H locs ls a1 a2 a3 hP hD hS hl)
theorem zs_if_lt (B : zw_B p l s m args meth c cc nL ret own nm Ts tb D dA A) {x : Int32} {off : Int} {tgt : Nat} (hdg : decode cc pc = .ok (.ifCond .lt off, 3)) (ht : (pc : Int) + off = (tgt : Int)) (kt : x < 0 → zw_k p l e R s m args below meth c Q D dA A ad0 n0 nL cells slots wl tgt lv st) (kf : ¬ x < 0 → zw_k p l e R s m args below meth c Q D dA A ad0 n0 nL cells slots wl (pc + 3) lv st) : zw_k p l e R s m args below meth c Q D dA A ad0 n0 nL cells slots wl pc lv (.int x :: st) := fun ad H locs ls a1 a2 a3 hP hD hS hl => lv_if_lt B.1 B.2.1 hdg ht (fun q => kt q ad H locs ls a1 a2 a3 hP hD hS hl) (fun q => kf q ad H locs ls a1 a2 a3 hP hD hS hl)
theorem zs_icmp_ge (B : zw_B p l s m args meth c cc nL ret own nm Ts tb D dA A) {x y : Int32} {off : Int} {tgt : Nat} (hdg : decode cc pc = .ok (.if_icmp .ge off, 3)) (ht : (pc : Int) + off = (tgt : Int)) (kt : y ≤ x → zw_k p l e R s m args below meth c Q D dA A ad0 n0 nL cells slots wl tgt lv st) (kf : ¬ y ≤ x → zw_k p l e R s m args below meth c Q D dA A ad0 n0 nL cells slots wl (pc + 3) lv st) : zw_k p l e R s m args below meth c Q D dA A ad0 n0 nL cells slots wl pc lv (.int y :: .int x :: st) := fun ad H locs ls a1 a2 a3 hP hD hS hl => lv_icmp_ge B.1 B.2.1 hdg ht (fun q => kt q ad H locs ls a1 a2 a3 hP hD hS hl) (fun q => kf q ad H locs ls a1 a2 a3 hP hD hS hl)
theorem zs_if_ge (B : zw_B p l s m args meth c cc nL ret own nm Ts tb D dA A) {x : Int32} {off : Int} {tgt : Nat} (hdg : decode cc pc = .ok (.ifCond .ge off, 3)) (ht : (pc : Int) + off = (tgt : Int)) (kt : 0 ≤ x → zw_k p l e R s m args below meth c Q D dA A ad0 n0 nL cells slots wl tgt lv st) (kf : ¬ 0 ≤ x → zw_k p l e R s m args below meth c Q D dA A ad0 n0 nL cells slots wl (pc + 3) lv st) : zw_k p l e R s m args below meth c Q D dA A ad0 n0 nL cells slots wl pc lv (.int x :: st) := fun ad H locs ls a1 a2 a3 hP hD hS hl => lv_if_ge B.1 B.2.1 hdg ht (fun q => kt q ad H locs ls a1 a2 a3 hP hD hS hl) (fun q => kf q ad H locs ls a1 a2 a3 hP hD hS hl)
theorem zs_icmp_gt (B : zw_B p l s m args meth c cc nL ret own nm Ts tb D dA A) {x y : Int32} {off : Int} {tgt : Nat} (hdg : decode cc pc = .ok (.if_icmp .gt off, 3)) (ht : (pc : Int) + off = (tgt : Int)) (kt : y < x → zw_k p l e R s m args below meth c Q D dA A ad0 n0 nL cells slots wl tgt lv st) (kf : ¬ y < x → zw_k p l e R s m args below meth c Q D dA A ad0 n0 nL cells slots wl (pc + 3) lv st) : zw_k p l e R s m args below meth c Q D dA A ad0 n0 nL cells slots wl pc lv (.int y :: .int x :: st) := fun ad H locs ls a1 a2 a3 hP hD hS hl => lv_icmp_gt B.1 B.2.1 hdg ht (fun q => kt q ad H locs ls a1 a2 a3 hP hD hS hl) (fun q => kf q ad H locs ls a1 a2 a3 hP hD hS hl)
theorem zs_if_gt (B : zw_B p l s m args meth c cc nL ret own nm Ts tb D dA A) {x : Int32} {off : Int} {tgt : Nat} (hdg : decode cc pc = .ok (.ifCond .gt off, 3)) (ht : (pc : Int) + off = (tgt : Int)) (kt : 0 < x → zw_k p l e R s m args below meth c Q D dA A ad0 n0 nL cells slots wl tgt lv st) (kf : ¬ 0 < x → zw_k p l e R s m args below meth c Q D dA A ad0 n0 nL cells slots wl (pc + 3) lv st) : zw_k p l e R s m args below meth c Q D dA A ad0 n0 nL cells slots wl pc lv (.int x :: st) := fun ad H locs ls a1 a2 a3 hP hD hS hl => lv_if_gt B.1 B.2.1 hdg ht (fun q => kt q ad H locs ls a1 a2 a3 hP hD hS hl) (fun q => kf q ad H locs ls a1 a2 a3 hP hD hS hl)
theorem zs_icmp_le (B : zw_B p l s m args meth c cc nL ret own nm Ts tb D dA A) {x y : Int32} {off : Int} {tgt : Nat} (hdg : decode cc pc = .ok (.if_icmp .le off, 3)) (ht : (pc : Int) + off = (tgt : Int)) (kt : x ≤ y → zw_k p l e R s m args below meth c Q D dA A ad0 n0 nL cells slots wl tgt lv st) (kf : ¬ x ≤ y → zw_k p l e R s m args below meth c Q D dA A ad0 n0 nL cells slots wl (pc + 3) lv st) : zw_k p l e R s m args below meth c Q D dA A ad0 n0 nL cells slots wl pc lv (.int y :: .int x :: st) := fun ad H locs ls a1 a2 a3 hP hD hS hl => lv_icmp_le B.1 B.2.1 hdg ht (fun q => kt q ad H locs ls a1 a2 a3 hP hD hS hl) (fun q => kf q ad H locs ls a1 a2 a3 hP hD hS hl)
theorem zs_if_le (B : zw_B p l s m args meth c cc nL ret own nm Ts tb D dA A) {x : Int32} {off : Int} {tgt : Nat} (hdg : decode cc pc = .ok (.ifCond .le off, 3)) (ht : (pc : Int) + off = (tgt : Int)) (kt : x ≤ 0 → zw_k p l e R s m args below meth c Q D dA A ad0 n0 nL cells slots wl tgt lv st) (kf : ¬ x ≤ 0 → zw_k p l e R s m args below meth c Q D dA A ad0 n0 nL cells slots wl (pc + 3) lv st) : zw_k p l e R s m args below meth c Q D dA A ad0 n0 nL cells slots wl pc lv (.int x :: st) := fun ad H locs ls a1 a2 a3 hP hD hS hl => lv_if_le B.1 B.2.1 hdg ht (fun q => kt q ad H locs ls a1 a2 a3 hP hD hS hl) (fun q => kf q ad H locs ls a1 a2 a3 hP hD hS hl)
theorem zs_goto (B : zw_B p l s m args meth c cc nL ret own nm Ts tb D dA A) {off : Int} {tgt : Nat} (hdg : decode cc pc = .ok (.goto off, 3)) (ht : (pc : Int) + off = (tgt : Int)) (kk : zw_k p l e R s m args below meth c Q D dA A ad0 n0 nL cells slots wl tgt lv st) : zw_k p l e R s m args below meth c Q D dA A ad0 n0 nL cells slots wl pc lv st := fun ad H locs ls a1 a2 a3 hP hD hS hl => lv_goto B.1 B.2.1 hdg ht (kk ad H locs ls a1 a2 a3 hP hD hS hl)
/-- a field's link: own's entry idx is field k of class ci, among the words Ts -/
def zw_F (Ts : List Cond) (own : String) (idx ci k : Nat) : Prop := ∃ (C : String) (T : u_T) (N : Nat), vwCl[ci]? = some (C, T, N) ∧ k < N ∧ (∀ w ∈ u_ws C T N, w ∈ Ts) ∧ Cond.fieldLink own idx C (T k).2.1 (T k).2.2.1 ∈ Ts ∧ (T k).1 = C
def zw_FN (Ts : List Cond) (own : String) (idx ci k : Nat) : Prop := ∃ (C : String) (T : u_T) (N : Nat), vwCl[ci]? = some (C, T, N) ∧ k < N ∧ (∀ w ∈ u_ws C T N, w ∈ Ts) ∧ Cond.fieldLinkNest own idx C (T k).2.1 (T k).2.2.1 "Twicebook" ∈ zw_nests ∧ (T k).1 = C
theorem zs_get (B : zw_B p l s m args meth c cc nL ret own nm Ts tb D dA A) {idx ci k a : Nat} {fs : List Value} {v : Value} (hf : zw_F Ts own idx ci k) (he : wl[a]? = some (.inr (ci, fs))) (hv : fs[k]? = some v) (hdg : decode cc pc = .ok (.getfield idx, 3)) (kk : zw_k p l e R s m args below meth c Q D dA A ad0 n0 nL cells slots wl (pc + 3) lv (v :: st)) : zw_k p l e R s m args below meth c Q D dA A ad0 n0 nL cells slots wl pc lv (.ref a :: st) := fun ad H locs ls a1 a2 a3 hP hD hS hl => by
  obtain ⟨C, T, N, h1, h2, h3, h4, h5⟩ := hf
  exact va_get (D := D) (cl := vwCl) B.1 B.2.1 B.2.2.2.2.2.1 h3 B.2.2.2.2.1 B.2.2.2.2.2.2.1.1 hP a (zw_of_at he) h1 k h2 (B.2.2.2.2.2.1 _ h4) (fun x hx => by rw [h5] at hx; exact hx) (by rw [List.getElem?_map, hv]; rfl) hdg (kk ad H locs ls a1 a2 a3 hP hD hS hl)
theorem zs_getN (B : zw_B p l s m args meth c cc nL ret own nm Ts tb D dA A) {idx ci k a : Nat} {fs : List Value} {v : Value} (hf : zw_FN Ts own idx ci k) (he : wl[a]? = some (.inr (ci, fs))) (hv : fs[k]? = some v) (hdg : decode cc pc = .ok (.getfield idx, 3)) (kk : zw_k p l e R s m args below meth c Q D dA A ad0 n0 nL cells slots wl (pc + 3) lv (v :: st)) : zw_k p l e R s m args below meth c Q D dA A ad0 n0 nL cells slots wl pc lv (.ref a :: st) := fun ad H locs ls a1 a2 a3 hP hD hS hl => by
  obtain ⟨C, T, N, h1, h2, h3, h4, h5⟩ := hf
  exact va_getN (D := D) (cl := vwCl) B.1 B.2.1 B.2.2.2.2.2.1 h3 B.2.2.2.2.1 B.2.2.2.2.2.2.1.1 hP a (zw_of_at he) h1 k h2 (va_Nw.use rfl (B.2.2.2.2.2.2.1.2.2.1 _ h4)) (fun x hx => by rw [h5] at hx; exact hx) (by rw [List.getElem?_map, hv]; rfl) hdg (kk ad H locs ls a1 a2 a3 hP hD hS hl)
theorem zw_tyok : ∀ (ci : Nat) (C : String) (T : u_T) (N : Nat), vwCl[ci]? = some (C, T, N) → ∃ ty : Nat → FieldType, (∀ k, k < N → parseFieldDescriptor (T k).2.2.1 = some (ty k)) ∧ (∀ a, a < N → ∀ b, b < N → a ≠ b → (T a).2.1 ≠ (T b).2.1) := by
  intro ci C T N h
  match ci, h with
  | 0, h => cases h; exact ⟨tyX0, tyX0_ok, nmX0⟩
  | 1, h => cases h; exact ⟨tyX1, tyX1_ok, nmX1⟩
  | 2, h => cases h; exact ⟨tyX2, tyX2_ok, nmX2⟩
  | 3, h => cases h; exact ⟨tyX3, tyX3_ok, nmX3⟩
  | 4, h => cases h; exact ⟨tyX4, tyX4_ok, nmX4⟩
  | 5, h => cases h; exact ⟨tyX5, tyX5_ok, nmX5⟩
  | n + 6, h => simp [vwCl] at h
/-- .. and what may be written into it -/
def zw_W (Ts : List Cond) (own : String) (idx ci k : Nat) (fin : Bool) (v : Value) : Prop := ∃ (C : String) (T : u_T) (N : Nat) (ty : FieldType), vwCl[ci]? = some (C, T, N) ∧ k < N ∧ (∀ w ∈ u_ws C T N, w ∈ Ts) ∧ Cond.fieldLink own idx C (T k).2.1 (T k).2.2.1 ∈ Ts ∧ (T k).1 = C ∧ (T k).2.2.2 = fin ∧ parseFieldDescriptor (T k).2.2.1 = some ty ∧ narrow ty v = v ∧ fits ty v = true
def zw_WN (Ts : List Cond) (own : String) (idx ci k : Nat) (v : Value) : Prop := ∃ (C : String) (T : u_T) (N : Nat) (ty : FieldType), vwCl[ci]? = some (C, T, N) ∧ k < N ∧ (∀ w ∈ u_ws C T N, w ∈ Ts) ∧ Cond.fieldLinkNest own idx C (T k).2.1 (T k).2.2.1 "Twicebook" ∈ zw_nests ∧ (T k).1 = C ∧ (T k).2.2.2 = false ∧ parseFieldDescriptor (T k).2.2.1 = some ty ∧ narrow ty v = v ∧ fits ty v = true
theorem zw_narrow_cv (ad : Nat → Nat) {ty : FieldType} {v : Value} (h : narrow ty v = v) : narrow ty (zw_cv ad v) = zw_cv ad v := by
  cases v with
  | ref k => cases ty <;> rfl
  | _ => exact h
theorem zw_fits_cv (ad : Nat → Nat) {ty : FieldType} {v : Value} (h : fits ty v = true) : fits ty (zw_cv ad v) = true := by
  cases v with
  | ref k => cases ty <;> exact h
  | _ => exact h
theorem zw_map_set (ad : Nat → Nat) (fs : List Value) (k : Nat) (v : Value) : (fs.map (zw_cv ad)).set k (zw_cv ad v) = (fs.set k v).map (zw_cv ad) := (List.map_set).symm
theorem zs_put (B : zw_B p l s m args meth c cc nL ret own nm Ts tb D dA A) {idx ci k a : Nat} {fs : List Value} {v : Value} (hf : zw_W Ts own idx ci k false v) (he : wl[a]? = some (.inr (ci, fs))) (hlk : k < fs.length) (hdg : decode cc pc = .ok (.putfield idx, 3)) (kk : zw_k p l e R s m args below meth c Q D dA A ad0 n0 nL cells slots (wl.set a (.inr (ci, fs.set k v))) (pc + 3) lv st) : zw_k p l e R s m args below meth c Q D dA A ad0 n0 nL cells slots wl pc lv (v :: .ref a :: st) := fun ad H locs ls a1 a2 a3 hP hD hS hl => by
  obtain ⟨C, T, N, ty, h1, h2, h3, h4, h5, h6, h7, h8, h9⟩ := hf
  obtain ⟨ty0, t1, t2⟩ := zw_tyok ci C T N h1
  refine va_put (D := D) (cl := vwCl) B.1 B.2.1 B.2.2.2.2.2.1 h3 ty0 t1 t2 B.2.2.2.2.1 B.2.2.2.2.2.2.1.1 hP hD hS a (zw_of_at he) h1 k h2 (B.2.2.2.2.2.1 _ h4) (fun x hx => by rw [h5] at hx; exact hx) h6 h7 (zw_narrow_cv ad h8) (zw_fits_cv ad h9) (by rw [List.length_map]; exact hlk) hdg (fun H1 locs1 hP1 hD1 hS1 => ?_)
  have e9 : ((zw_of dA ad wl).set a (ad a, .inr (ci, (fs.map (zw_cv ad)).set k (zw_cv ad v)))) = zw_of dA ad (wl.set a (.inr (ci, fs.set k v))) := by
    rw [zw_map_set]
    exact zw_of_set dA ad wl a (.inr (ci, fs.set k v))
  rw [e9] at hP1 hD1
  exact kk ad H1 locs1 ls a1 (fun q => a2 (by rw [List.length_set] at q; exact q)) (by rw [List.length_set]; exact a3) hP1 hD1 hS1 hl
theorem zs_putN (B : zw_B p l s m args meth c cc nL ret own nm Ts tb D dA A) {idx ci k a : Nat} {fs : List Value} {v : Value} (hf : zw_WN Ts own idx ci k v) (he : wl[a]? = some (.inr (ci, fs))) (hlk : k < fs.length) (hdg : decode cc pc = .ok (.putfield idx, 3)) (kk : zw_k p l e R s m args below meth c Q D dA A ad0 n0 nL cells slots (wl.set a (.inr (ci, fs.set k v))) (pc + 3) lv st) : zw_k p l e R s m args below meth c Q D dA A ad0 n0 nL cells slots wl pc lv (v :: .ref a :: st) := fun ad H locs ls a1 a2 a3 hP hD hS hl => by
  obtain ⟨C, T, N, ty, h1, h2, h3, h4, h5, h6, h7, h8, h9⟩ := hf
  obtain ⟨ty0, t1, t2⟩ := zw_tyok ci C T N h1
  refine va_putN (D := D) (cl := vwCl) B.1 B.2.1 B.2.2.2.2.2.1 h3 ty0 t1 t2 B.2.2.2.2.1 B.2.2.2.2.2.2.1.1 hP hD hS a (zw_of_at he) h1 k h2 (va_Nw.use rfl (B.2.2.2.2.2.2.1.2.2.1 _ h4)) (fun x hx => by rw [h5] at hx; exact hx) h6 h7 (zw_narrow_cv ad h8) (zw_fits_cv ad h9) (by rw [List.length_map]; exact hlk) hdg (fun H1 locs1 hP1 hD1 hS1 => ?_)
  have e9 : ((zw_of dA ad wl).set a (ad a, .inr (ci, (fs.map (zw_cv ad)).set k (zw_cv ad v)))) = zw_of dA ad (wl.set a (.inr (ci, fs.set k v))) := by
    rw [zw_map_set]
    exact zw_of_set dA ad wl a (.inr (ci, fs.set k v))
  rw [e9] at hP1 hD1
  exact kk ad H1 locs1 ls a1 (fun q => a2 (by rw [List.length_set] at q; exact q)) (by rw [List.length_set]; exact a3) hP1 hD1 hS1 hl
theorem zs_putF (B : zw_B p l s m args meth c cc nL ret own nm Ts tb D dA A) {idx ci k a : Nat} {fs : List Value} {v : Value} (hf : zw_W Ts own idx ci k true v) (hin1 : nm = "<init>") (hown9 : ∀ C, (∃ T N, vwCl[ci]? = some (C, T, N)) → C = own) (he : wl[a]? = some (.inr (ci, fs))) (hlk : k < fs.length) (hdg : decode cc pc = .ok (.putfield idx, 3)) (kk : zw_k p l e R s m args below meth c Q D dA A ad0 n0 nL cells slots (wl.set a (.inr (ci, fs.set k v))) (pc + 3) lv st) : zw_k p l e R s m args below meth c Q D dA A ad0 n0 nL cells slots wl pc lv (v :: .ref a :: st) := fun ad H locs ls a1 a2 a3 hP hD hS hl => by
  obtain ⟨C, T, N, ty, h1, h2, h3, h4, h5, h6, h7, h8, h9⟩ := hf
  obtain ⟨ty0, t1, t2⟩ := zw_tyok ci C T N h1
  refine va_putF (D := D) (cl := vwCl) B.1 B.2.1 B.2.2.2.2.2.1 h3 ty0 t1 t2 B.2.2.2.2.1 B.2.2.2.2.2.2.1.1 hP hD hS a (zw_of_at he) h1 k h2 (B.2.2.2.2.2.1 _ h4) (fun x hx => by rw [h5] at hx; exact hx) h6 (B.2.2.2.2.2.2.2.2.2.2.2.2.trans hin1) (by rw [h5]; exact hown9 C ⟨T, N, h1⟩) h7 (zw_narrow_cv ad h8) (zw_fits_cv ad h9) (by rw [List.length_map]; exact hlk) hdg (fun H1 locs1 hP1 hD1 hS1 => ?_)
  have e9 : ((zw_of dA ad wl).set a (ad a, .inr (ci, (fs.map (zw_cv ad)).set k (zw_cv ad v)))) = zw_of dA ad (wl.set a (.inr (ci, fs.set k v))) := by
    rw [zw_map_set]
    exact zw_of_set dA ad wl a (.inr (ci, fs.set k v))
  rw [e9] at hP1 hD1
  exact kk ad H1 locs1 ls a1 (fun q => a2 (by rw [List.length_set] at q; exact q)) (by rw [List.length_set]; exact a3) hP1 hD1 hS1 hl
theorem zs_alen (B : zw_B p l s m args meth c cc nL ret own nm Ts tb D dA A) {a t n : Nat} {x : (Nat → Int32) ⊕ (Nat → Int64) ⊕ (Nat → UInt32) ⊕ (Nat → UInt64) ⊕ (Nat → Option Nat)} {v : Int32} (he : wl[a]? = some (.inl (t, n, x))) (ht : t < 5) (hv : Int32.ofNat n = v) (hdg : decode cc pc = .ok (.arraylength, 1)) (kk : zw_k p l e R s m args below meth c Q D dA A ad0 n0 nL cells slots wl (pc + 1) lv (.int v :: st)) : zw_k p l e R s m args below meth c Q D dA A ad0 n0 nL cells slots wl pc lv (.ref a :: st) := fun ad H locs ls a1 a2 a3 hP hD hS hl => by
  have hn : (zw_cA ad (n, x)).1 = n := by unfold zw_cA; split <;> rfl
  obtain ⟨ty, ht⟩ : ∃ ty, (zw_tys dA)[t]? = some (dA t, ty) := by
    match t, ht with
    | 0, _ => exact ⟨_, rfl⟩
    | 1, _ => exact ⟨_, rfl⟩
    | 2, _ => exact ⟨_, rfl⟩
    | 3, _ => exact ⟨_, rfl⟩
    | 4, _ => exact ⟨_, rfl⟩
  exact va_alen (D := D) (cl := vwCl) B.1 B.2.1 B.2.2.2.2.2.2.1.1 hP a t (zw_of_at he) ht (by rw [hn]; exact hv) hdg (kk ad H locs ls a1 a2 a3 hP hD hS hl)
theorem zs_ial (B : zw_B p l s m args meth c cc nL ret own nm Ts tb D dA A) {a n : Nat} {f : Nat → Int32} {i : Int32} (j : Nat) (he : wl[a]? = some (.inl (0, n, .inl f))) (hj : j < n) (hn : n < 2 ^ 31) (hi : i = nI j) (hdg : decode cc pc = .ok (.iaload, 1)) (kk : zw_k p l e R s m args below meth c Q D dA A ad0 n0 nL cells slots wl (pc + 1) lv (.int (f j) :: st)) : zw_k p l e R s m args below meth c Q D dA A ad0 n0 nL cells slots wl pc lv (.int i :: .ref a :: st) := fun ad H locs ls a1 a2 a3 hP hD hS hl => by
  subst hi
  refine va_iald (D := D) (cl := vwCl) (f := f) B.1 B.2.1 B.2.2.2.2.2.2.1.1 hP a 0 (zw_of_at he) rfl (vp_in_nI hj hn) hdg ?_
  rw [nI_clamp (Nat.lt_trans hj hn)]
  exact (kk ad H locs ls a1 a2 a3 hP hD hS hl)
theorem zs_cal (B : zw_B p l s m args meth c cc nL ret own nm Ts tb D dA A) {a n : Nat} {f : Nat → Int32} {i : Int32} (j : Nat) (he : wl[a]? = some (.inl (1, n, .inl f))) (hj : j < n) (hn : n < 2 ^ 31) (hi : i = nI j) (hdg : decode cc pc = .ok (.caload, 1)) (kk : zw_k p l e R s m args below meth c Q D dA A ad0 n0 nL cells slots wl (pc + 1) lv (.int (f j) :: st)) : zw_k p l e R s m args below meth c Q D dA A ad0 n0 nL cells slots wl pc lv (.int i :: .ref a :: st) := fun ad H locs ls a1 a2 a3 hP hD hS hl => by
  subst hi
  refine va_cald (D := D) (cl := vwCl) (f := f) B.1 B.2.1 B.2.2.2.2.2.2.1.1 hP a 1 (zw_of_at he) rfl (vp_in_nI hj hn) hdg ?_
  rw [nI_clamp (Nat.lt_trans hj hn)]
  exact (kk ad H locs ls a1 a2 a3 hP hD hS hl)
theorem zs_lal (B : zw_B p l s m args meth c cc nL ret own nm Ts tb D dA A) {a n : Nat} {f : Nat → Int64} {i : Int32} (j : Nat) (he : wl[a]? = some (.inl (2, n, .inr (.inl f)))) (hj : j < n) (hn : n < 2 ^ 31) (hi : i = nI j) (hdg : decode cc pc = .ok (.laload, 1)) (kk : zw_k p l e R s m args below meth c Q D dA A ad0 n0 nL cells slots wl (pc + 1) lv (.long (f j) :: st)) : zw_k p l e R s m args below meth c Q D dA A ad0 n0 nL cells slots wl pc lv (.int i :: .ref a :: st) := fun ad H locs ls a1 a2 a3 hP hD hS hl => by
  subst hi
  refine va_lald (D := D) (cl := vwCl) (f := f) B.1 B.2.1 B.2.2.2.2.2.2.1.1 hP a 2 (zw_of_at he) rfl (vp_in_nI hj hn) hdg ?_
  rw [nI_clamp (Nat.lt_trans hj hn)]
  exact (kk ad H locs ls a1 a2 a3 hP hD hS hl)
theorem zs_ias (B : zw_B p l s m args meth c cc nL ret own nm Ts tb D dA A) {a n : Nat} {f : Nat → Int32} {i : Int32} {x : Int32} (j : Nat) (he : wl[a]? = some (.inl (0, n, .inl f))) (hj : j < n) (hn : n < 2 ^ 31) (hi : i = nI j) (hdg : decode cc pc = .ok (.iastore, 1)) (kk : zw_k p l e R s m args below meth c Q D dA A ad0 n0 nL cells slots (wl.set a (.inl (0, n, .inl (upd f j x)))) (pc + 1) lv st) : zw_k p l e R s m args below meth c Q D dA A ad0 n0 nL cells slots wl pc lv (.int x :: .int i :: .ref a :: st) := fun ad H locs ls a1 a2 a3 hP hD hS hl => by
  subst hi
  refine va_iast (D := D) (cl := vwCl) (f := f) B.1 B.2.1 B.2.2.2.2.2.2.1.1 hP hD hS a 0 (zw_of_at he) rfl (vp_in_nI hj hn) hdg (fun H1 locs1 hP1 hD1 hS1 => ?_)
  rw [nI_clamp (Nat.lt_trans hj hn)] at hP1 hD1
  have e9 := zw_of_set dA ad wl a (.inl (0, n, .inl (upd f j x)))
  rw [show zw_cE dA ad (.inl (0, n, .inl (upd f j x))) = .inl (dA 0, n, .inl (upd f j x)) from rfl] at e9
  rw [e9] at hP1 hD1
  exact kk ad H1 locs1 ls a1 (fun q => a2 (by rw [List.length_set] at q; exact q)) (by rw [List.length_set]; exact a3) hP1 hD1 hS1 hl
theorem zs_las (B : zw_B p l s m args meth c cc nL ret own nm Ts tb D dA A) {a n : Nat} {f : Nat → Int64} {i : Int32} {x : Int64} (j : Nat) (he : wl[a]? = some (.inl (2, n, .inr (.inl f)))) (hj : j < n) (hn : n < 2 ^ 31) (hi : i = nI j) (hdg : decode cc pc = .ok (.lastore, 1)) (kk : zw_k p l e R s m args below meth c Q D dA A ad0 n0 nL cells slots (wl.set a (.inl (2, n, .inr (.inl (vp_updL f j x))))) (pc + 1) lv st) : zw_k p l e R s m args below meth c Q D dA A ad0 n0 nL cells slots wl pc lv (.long x :: .int i :: .ref a :: st) := fun ad H locs ls a1 a2 a3 hP hD hS hl => by
  subst hi
  refine va_last (D := D) (cl := vwCl) (f := f) B.1 B.2.1 B.2.2.2.2.2.2.1.1 hP hD hS a 2 (zw_of_at he) rfl (vp_in_nI hj hn) hdg (fun H1 locs1 hP1 hD1 hS1 => ?_)
  rw [nI_clamp (Nat.lt_trans hj hn)] at hP1 hD1
  have e9 := zw_of_set dA ad wl a (.inl (2, n, .inr (.inl (vp_updL f j x))))
  rw [show zw_cE dA ad (.inl (2, n, .inr (.inl (vp_updL f j x)))) = .inl (dA 2, n, .inr (.inl (vp_updL f j x))) from rfl] at e9
  rw [e9] at hP1 hD1
  exact kk ad H1 locs1 ls a1 (fun q => a2 (by rw [List.length_set] at q; exact q)) (by rw [List.length_set]; exact a3) hP1 hD1 hS1 hl
theorem zs_cas (B : zw_B p l s m args meth c cc nL ret own nm Ts tb D dA A) {a n : Nat} {f : Nat → Int32} {i x : Int32} (j : Nat) (he : wl[a]? = some (.inl (1, n, .inl f))) (hj : j < n) (hn : n < 2 ^ 31) (hi : i = nI j) (hx : vp_nar .char x = x) (hdg : decode cc pc = .ok (.castore, 1)) (kk : zw_k p l e R s m args below meth c Q D dA A ad0 n0 nL cells slots (wl.set a (.inl (1, n, .inl (upd f j x)))) (pc + 1) lv st) : zw_k p l e R s m args below meth c Q D dA A ad0 n0 nL cells slots wl pc lv (.int x :: .int i :: .ref a :: st) := fun ad H locs ls a1 a2 a3 hP hD hS hl => by
  subst hi
  refine va_cast (D := D) (cl := vwCl) (f := f) B.1 B.2.1 B.2.2.2.2.2.2.1.1 hP hD hS a 1 (zw_of_at he) rfl (vp_in_nI hj hn) hdg (fun H1 locs1 hP1 hD1 hS1 => ?_)
  rw [nI_clamp (Nat.lt_trans hj hn), hx] at hP1 hD1
  have e9 := zw_of_set dA ad wl a (.inl (1, n, .inl (upd f j x)))
  rw [show zw_cE dA ad (.inl (1, n, .inl (upd f j x))) = .inl (dA 1, n, .inl (upd f j x)) from rfl] at e9
  rw [e9] at hP1 hD1
  exact kk ad H1 locs1 ls a1 (fun q => a2 (by rw [List.length_set] at q; exact q)) (by rw [List.length_set]; exact a3) hP1 hD1 hS1 hl
theorem zs_aal (B : zw_B p l s m args meth c cc nL ret own nm Ts tb D dA A) {a n t r : Nat} {f : Nat → Option Nat} {i : Int32} (j : Nat) (he : wl[a]? = some (.inl (t, n, .inr (.inr (.inr (.inr f)))))) (ht : t = 3 ∨ t = 4) (hj : j < n) (hn : n < 2 ^ 31) (hi : i = nI j) (hr : f j = some r) (hdg : decode cc pc = .ok (.aaload, 1)) (kk : zw_k p l e R s m args below meth c Q D dA A ad0 n0 nL cells slots wl (pc + 1) lv (.ref r :: st)) : zw_k p l e R s m args below meth c Q D dA A ad0 n0 nL cells slots wl pc lv (.int i :: .ref a :: st) := fun ad H locs ls a1 a2 a3 hP hD hS hl => by
  subst hi
  have hP0 : H[ad a]? = some (arrV (dA t) n (fun j => va_rf ((f j).map ad))) := hP a _ (zw_of_at he)
  have hcl : (nI j).toNatClampNeg = j := nI_clamp (Nat.lt_trans hj hn)
  have hk9 := (kk ad H locs ls a1 a2 a3 hP hD hS hl)
  have hin : ¬ (nI j < 0 ∨ (arrV (dA t) n (fun j => va_rf ((f j).map ad))).slots.size ≤ (nI j).toNatClampNeg) := by rw [arrV_size]; exact vp_in_nI hj hn
  have hv : (arrV (dA t) n (fun j => va_rf ((f j).map ad))).slots[(nI j).toNatClampNeg]? = some (.ref (ad r)) := by rw [hcl, arrV_read _ _ hj, hr]; rfl
  rcases ht with rfl | rfl
  · exact W.aald (v := .ref (ad r)) (ty := .object "Twicebook$Page") B.1 B.2.1 hP0 ((B.2.2.2.2.2.2.1.1.2 3 _ rfl).1 n _) rfl (fun q => by cases q) hin hv rfl rfl hdg hk9
  · exact W.aald (v := .ref (ad r)) (ty := .array .int) B.1 B.2.1 hP0 ((B.2.2.2.2.2.2.1.1.2 4 _ rfl).1 n _) rfl (fun q => by cases q) hin hv rfl rfl hdg hk9
theorem zs_aas (B : zw_B p l s m args meth c cc nL ret own nm Ts tb D dA A) {a n r : Nat} {f : Nat → Option Nat} {vs : List Value} {i : Int32} (j : Nat) (he : wl[a]? = some (.inl (3, n, .inr (.inr (.inr (.inr f)))))) (hr : wl[r]? = some (.inr (0, vs))) (hj : j < n) (hn : n < 2 ^ 31) (hi : i = nI j) (hdg : decode cc pc = .ok (.aastore, 1)) (kk : zw_k p l e R s m args below meth c Q D dA A ad0 n0 nL cells slots (wl.set a (.inl (3, n, .inr (.inr (.inr (.inr (va_up f j (some r)))))))) (pc + 1) lv st) : zw_k p l e R s m args below meth c Q D dA A ad0 n0 nL cells slots wl pc lv (.ref r :: .int i :: .ref a :: st) := fun ad H locs ls a1 a2 a3 hP hD hS hl => by
  subst hi
  refine va_astq (D := D) (cl := vwCl) (f := fun j => (f j).map ad) (vs := vs.map (zw_cv ad)) B.1 B.2.1 B.2.2.2.2.2.2.1.1 hP hD hS a 3 r 0 (zw_of_at he) rfl (zw_of_at hr) rfl (vp_in_nI hj hn) hdg (fun H1 locs1 hP1 hD1 hS1 => ?_)
  rw [nI_clamp (Nat.lt_trans hj hn)] at hP1 hD1
  have e8 : va_up (fun j => (f j).map ad) j (some (ad r)) = fun i => ((va_up f j (some r)) i).map ad := by
    funext i
    unfold va_up
    split <;> rfl
  rw [e8] at hP1 hD1
  have e9 := zw_of_set dA ad wl a (.inl (3, n, .inr (.inr (.inr (.inr (va_up f j (some r)))))))
  rw [show zw_cE dA ad (.inl (3, n, .inr (.inr (.inr (.inr (va_up f j (some r))))))) = .inl (dA 3, n, .inr (.inr (.inr (.inr (fun i => ((va_up f j (some r)) i).map ad))))) from rfl] at e9
  rw [e9] at hP1 hD1
  exact kk ad H1 locs1 ls a1 (fun q => a2 (by rw [List.length_set] at q; exact q)) (by rw [List.length_set]; exact a3) hP1 hD1 hS1 hl
theorem zs_eq {pc' : Nat} {lv' : List (Option Value)} {st' : List Value} {wl' : List zw_E} (h1 : wl = wl') (h2 : lv = lv') (h3 : st = st') (h4 : pc = pc') (kk : zw_k p l e R s m args below meth c Q D dA A ad0 n0 nL cells slots wl' pc' lv' st') : zw_k p l e R s m args below meth c Q D dA A ad0 n0 nL cells slots wl pc lv st := by subst h1; subst h2; subst h3; subst h4; exact kk
theorem zs_widen {k n : Nat} (h1 : cells ≤ k) (h2 : slots ≤ n) (kk : zw_k p l e R s m args below meth c Q D dA A ad0 n0 nL k n wl pc lv st) : zw_k p l e R s m args below meth c Q D dA A ad0 n0 nL cells slots wl pc lv st := fun ad H locs ls a1 a2 a3 hP hD hS hl => W.widen h1 h2 (kk ad H locs ls a1 a2 a3 hP hD hS hl)
theorem zs_topi {x : Int32} (kk : ∀ y : Int32, y = x → zw_k p l e R s m args below meth c Q D dA A ad0 n0 nL cells slots wl pc lv (.int y :: st)) : zw_k p l e R s m args below meth c Q D dA A ad0 n0 nL cells slots wl pc lv (.int x :: st) := kk x rfl
end ZS
end
section
/-! contracts over worlds; calls with a part of the world; ends -/
def zw_rm (fr mc ms : Nat) : Room := { frames := fr, cells := mc, slots := ms, locals := 36 * fr }
def zw_Pc (D : va_G) (dA : Nat → ClassId) (as : List Value) (wl : List zw_E) (ad : Nat → Nat) (sz : Nat) : Array Value → State → Prop :=
  va_Pc (as.map (zw_cv ad)) (fun U => U.heap.size = sz ∧ va_P D vwCl (zw_of dA ad wl) U.heap ∧ va_D (fun _ => True) (zw_of dA ad wl) ∧ zw_K D dA U ∧ zw_Z (zw_A ad wl.length sz) U U.heap)
def zw_Qc (D : va_G) (dA : Nat → ClassId) (wl : List zw_E) (ad : Nat → Nat) (sz : Nat) (post : Option Value → List zw_E → Prop) : Array Value → State → Outcome → State → Prop := fun _ st o t =>
  (∃ (v : Option Value) (wl' : List zw_E) (ad' : Nat → Nat), o = .returned (v.map (zw_cv ad')) ∧ post v wl' ∧ (∀ k, k < wl.length → ad' k = ad k) ∧ (wl'.length = wl.length → ad' = ad) ∧ wl.length ≤ wl'.length ∧ va_P D vwCl (zw_of dA ad' wl') t.heap ∧ va_D (zw_A ad wl.length sz) (zw_of dA ad' wl')) ∧ va_F (zw_A ad wl.length sz) st t
def zw_XC (D : va_G) (dA : Nat → ClassId) (wl : List zw_E) (ad : Nat → Nat) (sz : Nat) (px : String → List zw_E → Prop) : String → State → State → Prop := fun E st t =>
  (∃ (wl' : List zw_E) (ad' : Nat → Nat), px E wl' ∧ (∀ k, k < wl.length → ad' k = ad k) ∧ (wl'.length = wl.length → ad' = ad) ∧ wl.length ≤ wl'.length ∧ va_P D vwCl (zw_of dA ad' wl') t.heap ∧ va_D (zw_A ad wl.length sz) (zw_of dA ad' wl')) ∧ va_F (zw_A ad wl.length sz) st t
/-- the contract of a method that may throw -/
def zw_Sp (l : Launch) (D : va_G) (dA : Nat → ClassId) (y : MethodName) (ws : List Cond) (fr mc ms : Nat) (as : List Value) (wl : List zw_E) (post : Option Value → List zw_E → Prop) (px : String → List zw_E → Prop) : Prop :=
  ∀ (ad : Nat → Nat) (sz : Nat), vx_Met l y ws (zw_rm fr mc ms) (zw_Pc D dA as wl ad sz) (zw_Qc D dA wl ad sz post) (zw_XC D dA wl ad sz px) mc ms (zw_A ad wl.length sz)
/-- .. of one that makes cells and doesn't throw -/
def zw_Sc (l : Launch) (D : va_G) (dA : Nat → ClassId) (y : MethodName) (ws : List Cond) (fr mc ms : Nat) (as : List Value) (wl : List zw_E) (post : Option Value → List zw_E → Prop) : Prop :=
  ∀ (ad : Nat → Nat) (sz : Nat), Met l y ws (zw_rm fr mc ms) (zw_Pc D dA as wl ad sz) (zw_Qc D dA wl ad sz post) mc ms (zw_A ad wl.length sz)
theorem zw_D_iff {dA : Nat → ClassId} {ad : Nat → Nat} {A : Nat → Prop} {wl : List zw_E} : va_D A (zw_of dA ad wl) ↔ (∀ i j, i < wl.length → j < wl.length → ad i = ad j → i = j) ∧ ∀ k, k < wl.length → A (ad k) := by
  constructor
  · rintro ⟨h1, h2⟩
    refine ⟨fun i j hi hj e => ?_, fun k hk => ?_⟩
    · exact h1 i j _ _ (zw_of_at (List.getElem?_eq_getElem hi)) (zw_of_at (List.getElem?_eq_getElem hj)) e
    · exact h2 k _ (zw_of_at (List.getElem?_eq_getElem hk))
  · rintro ⟨h1, h2⟩
    refine ⟨fun i j p q hi hj e => ?_, fun k q hk => ?_⟩
    · obtain ⟨e1, w1, rfl⟩ := zw_of_inv hi
      obtain ⟨e2, w2, rfl⟩ := zw_of_inv hj
      exact h1 i j (zw_lt w1) (zw_lt w2) e
    · obtain ⟨e1, w1, rfl⟩ := zw_of_inv hk
      exact h2 k (zw_lt w1)
theorem zw_lg_sl {vs : List Value} (h : ∀ v ∈ vs, v.category = 1) : lg_sl vs = vs.map .val := by
  induction vs with
  | nil => rfl
  | cons v vs ih =>
    have h1 : ¬ v.category = 2 := by rw [h v List.mem_cons_self]; decide
    have h2 := ih (fun w hw => h w (List.mem_cons_of_mem _ hw))
    unfold lg_sl at h2 ⊢
    rw [List.flatMap_cons, h2, if_neg h1]
    rfl
theorem zw_lv_args {vs : List Value} (h : ∀ v ∈ vs, v.category = 1) : ∀ (o i : Nat) (v : Value), vs[i]? = some v → (o + i, v) ∈ lv_args o vs := by
  induction vs with
  | nil => intro o i v hv; cases hv
  | cons w vs ih =>
    intro o i v hv
    have h1 : ¬ w.category = 2 := by rw [h w List.mem_cons_self]; decide
    show (o + i, v) ∈ (o, w) :: lv_args (if w.category = 2 then o + 2 else o + 1) vs
    rw [if_neg h1]
    cases i with
    | zero =>
      cases hv
      exact List.mem_cons_self
    | succ i =>
      refine List.mem_cons_of_mem _ ?_
      have := ih (fun w hw => h w (List.mem_cons_of_mem _ hw)) (o + 1) i v hv
      rw [show o + (i + 1) = o + 1 + i by omega]
      exact this
/-- the locals at the entry -/
def zw_l0 (as : List Value) (n : Nat) : List (Option Value) := as.map some ++ List.replicate (n - as.length) none
theorem zw_entry {as : List Value} {n : Nat} (ad : Nat → Nat) (h : ∀ v ∈ as, v.category = 1) (hn : as.length ≤ n) (m : MethodId) : ∃ ls, entryFrame m (as.map (zw_cv ad)).toArray n = F0 m 0 ls [] ∧ zw_L ls n ad (zw_l0 as n) := by
  have h' : ∀ v ∈ as.map (zw_cv ad), v.category = 1 := by
    intro v hv
    obtain ⟨w, hw, rfl⟩ := List.mem_map.mp hv
    rw [zw_cv_cat]
    exact h w hw
  have hE := lv_entry (as.map (zw_cv ad)) (n := n) (by rw [zw_lg_sl h', List.length_map, List.length_map]; exact hn)
  refine ⟨_, lg_entry_eq m _ n, hE.1, hE.2.1, fun i v hv => ?_⟩
  have h1 : as[i]? = some v := by
    unfold zw_l0 at hv
    by_cases hi : i < (as.map some).length
    · rw [List.getElem?_append_left hi, List.getElem?_map] at hv
      cases ha : as[i]? with
      | none => rw [ha] at hv; cases hv
      | some w => rw [ha] at hv; cases hv; rfl
    · rw [List.getElem?_append_right (by omega), List.getElem?_replicate] at hv
      split at hv <;> cases hv
  have h2 := zw_lv_args h' 0 i (zw_cv ad v) (by rw [List.getElem?_map, h1]; rfl)
  rw [Nat.zero_add] at h2
  exact hE.2.2 _ h2
theorem zw_A_self {dA : Nat → ClassId} {ad : Nat → Nat} {sz : Nat} {A : Nat → Prop} {wl : List zw_E} (h : va_D A (zw_of dA ad wl)) : va_D (zw_A ad wl.length sz) (zw_of dA ad wl) := by
  obtain ⟨h1, -⟩ := zw_D_iff.mp h
  exact zw_D_iff.mpr ⟨h1, fun k hk => Or.inl ⟨k, hk, rfl⟩⟩
/-- a body that may throw, no table -/
theorem zw_start {l : Launch} (hl : l.stackTraces = false) {D : va_G} {dA : Nat → ClassId} {y : MethodName} {ws ws' : List Cond} {fr mc ms : Nat} {as : List Value} {wl : List zw_E} {post : Option Value → List zw_E → Prop} {px : String → List zw_E → Prop} {cc : ByteArray} {maxL : Nat} {ret : Option FieldType}
    (hy : plainName y.cls = true) (hw : ws = Cond.code y cc maxL ret :: ws') (hcat : as.all (fun v => v.category == 1) = true) (hlen : as.length ≤ maxL)
    (body : ∀ (p : Program) (e : Env) (s : State) (m : MethodId) (args : Array Value) (below : List Frame) (meth : Method) (c : Code) (ad : Nat → Nat) (A : Nat → Prop), A = zw_A ad wl.length s.heap.size → zw_B p l s m args meth c cc maxL ret y.cls y.name ws [] D dA A →
      zw_k p l e (zw_rm fr mc ms) s m args below meth c (vx_MQ below (zw_Qc D dA wl ad s.heap.size post) (zw_XC D dA wl ad s.heap.size px) args s mc ms A) D dA A ad wl.length maxL 0 0 wl 0 (zw_l0 as maxL) []) : zw_Sp l D dA y ws fr mc ms as wl post px := by
  intro ad sz
  refine vx_ofW (cc := cc) (maxL := maxL) (ret := ret) hy hw ?_
  intro p e s m args below meth c s₁ B hml htb hv
  obtain ⟨rfl, hsz, hP, hD, hK, hZ⟩ := hv
  subst hsz
  have hts := atoms_spec (ws := ws) B.pre
  obtain ⟨ls, e1, hL⟩ := zw_entry ad (fun v hv => by have := List.all_eq_true.mp hcat v hv; simpa using this) hlen m
  rw [e1]
  have htb' : c.exceptionTable.toList = [] := by
    cases h : c.exceptionTable.toList with
    | nil => rfl
    | cons x xs => exact (htb x (by rw [h]; exact List.mem_cons_self)).elim
  refine body p e s m _ below meth c ad _ rfl ⟨B.exec, B.bytes, B.returns, hml, findClass_of_methodNamed B.named, hts, hK, hZ, B.notSynchronized, fun q h => Or.inr h, hl, htb', (name_of_methodNamed B.named B.method).1⟩ ad s.heap [] ls (fun _ _ => rfl) (fun _ => rfl) (Nat.le_refl _) hP (zw_A_self hD) va_S.rf hL
/-- a body with a table -/
theorem zw_startW {l : Launch} (hl : l.stackTraces = false) {D : va_G} {dA : Nat → ClassId} {y : MethodName} {ws ws' : List Cond} {fr mc ms : Nat} {as : List Value} {wl : List zw_E} {post : Option Value → List zw_E → Prop} {px : String → List zw_E → Prop} {cc : ByteArray} {maxL : Nat} {ret : Option FieldType} {hh : List (Nat × Nat × Nat × Nat)}
    (hy : plainName y.cls = true) (hw : ws = Cond.codeWith y cc maxL ret hh :: ws') (hcat : as.all (fun v => v.category == 1) = true) (hlen : as.length ≤ maxL)
    (body : ∀ (p : Program) (e : Env) (s : State) (m : MethodId) (args : Array Value) (below : List Frame) (meth : Method) (c : Code) (ad : Nat → Nat) (A : Nat → Prop), A = zw_A ad wl.length s.heap.size → zw_B p l s m args meth c cc maxL ret y.cls y.name ws (tableOf hh) D dA A →
      zw_k p l e (zw_rm fr mc ms) s m args below meth c (vx_MQ below (zw_Qc D dA wl ad s.heap.size post) (zw_XC D dA wl ad s.heap.size px) args s mc ms A) D dA A ad wl.length maxL 0 0 wl 0 (zw_l0 as maxL) []) : zw_Sp l D dA y ws fr mc ms as wl post px := by
  intro ad sz
  refine vx_ofWH (cc := cc) (maxL := maxL) (ret := ret) (hh := hh) hy hw ?_
  intro p e s m args below meth c s₁ B hml hv
  obtain ⟨rfl, hsz, hP, hD, hK, hZ⟩ := hv
  subst hsz
  have hts := atoms_spec (ws := ws) B.pre
  have htb : c.exceptionTable.toList = tableOf hh := vx_table (x := y) B (hts _ (by rw [hw]; exact List.mem_cons_self))
  obtain ⟨ls, e1, hL⟩ := zw_entry ad (fun v hv => by have := List.all_eq_true.mp hcat v hv; simpa using this) hlen m
  rw [e1]
  refine body p e s m _ below meth c ad _ rfl ⟨B.exec, B.bytes, B.returns, hml, findClass_of_methodNamed B.named, hts, hK, hZ, B.notSynchronized, fun q h => Or.inr h, hl, htb, (name_of_methodNamed B.named B.method).1⟩ ad s.heap [] ls (fun _ _ => rfl) (fun _ => rfl) (Nat.le_refl _) hP (zw_A_self hD) va_S.rf hL
/-- a constructor's body -/
theorem zw_startC {l : Launch} (hl : l.stackTraces = false) {D : va_G} {dA : Nat → ClassId} {y : MethodName} {ws ws' : List Cond} {fr mc ms : Nat} {as : List Value} {wl : List zw_E} {post : Option Value → List zw_E → Prop} {cc : ByteArray} {maxL : Nat} {ret : Option FieldType}
    (hy : plainName y.cls = true) (hw : ws = Cond.code y cc maxL ret :: ws') (hcat : as.all (fun v => v.category == 1) = true) (hlen : as.length ≤ maxL)
    (body : ∀ (p : Program) (e : Env) (s : State) (m : MethodId) (args : Array Value) (below : List Frame) (meth : Method) (c : Code) (ad : Nat → Nat) (A : Nat → Prop) (tb : List ExceptionTableEntry), A = zw_A ad wl.length s.heap.size → zw_B p l s m args meth c cc maxL ret y.cls y.name ws tb D dA A →
      zw_k p l e (zw_rm fr mc ms) s m args below meth c (MQ below (zw_Qc D dA wl ad s.heap.size post) args s mc ms A) D dA A ad wl.length maxL 0 0 wl 0 (zw_l0 as maxL) []) : zw_Sc l D dA y ws fr mc ms as wl post := by
  intro ad sz
  refine Met.ofW (cc := cc) (maxL := maxL) (ret := ret) hy hw ?_
  intro p e s m args below meth c s₁ B hml hv
  obtain ⟨rfl, hsz, hP, hD, hK, hZ⟩ := hv
  subst hsz
  have hts := atoms_spec (ws := ws) B.pre
  obtain ⟨ls, e1, hL⟩ := zw_entry ad (fun v hv => by have := List.all_eq_true.mp hcat v hv; simpa using this) hlen m
  rw [e1]
  refine body p e s m _ below meth c ad _ _ rfl ⟨B.exec, B.bytes, B.returns, hml, findClass_of_methodNamed B.named, hts, hK, hZ, B.notSynchronized, fun q h => Or.inr h, hl, rfl, (name_of_methodNamed B.named B.method).1⟩ ad s.heap [] ls (fun _ _ => rfl) (fun _ => rfl) (Nat.le_refl _) hP (zw_A_self hD) va_S.rf hL
section ZR
variable {p : Program} {l : Launch} {e : Env} {R : Room} {s : State} {m : MethodId} {args : Array Value} {below : List Frame} {meth : Method} {c : Code} {cc : ByteArray} {nL : Nat} {ret : Option FieldType} {own nm : String} {Ts : List Cond} {tb : List ExceptionTableEntry} {D : va_G} {dA : Nat → ClassId} {A : Nat → Prop} {ad0 : Nat → Nat} {cells slots pc mc ms : Nat} {wl0 wl : List zw_E} {lv : List (Option Value)} {st : List Value} {post : Option Value → List zw_E → Prop} {px : String → List zw_E → Prop}
theorem zw_end {v : Option Value} {ad : Nat → Nat} {H : Heap} {locs : List Loc} (hA : A = zw_A ad0 wl0.length s.heap.size) (hq : post v wl) (a1 : ∀ k, k < wl0.length → ad k = ad0 k) (a2 : wl.length = wl0.length → ad = ad0) (a3 : wl0.length ≤ wl.length) (hP : va_P D vwCl (zw_of dA ad wl) H) (hD : va_D A (zw_of dA ad wl)) (hS : va_S A s.heap H locs) (t : State) (ht : t.heap = H) : zw_Qc D dA wl0 ad0 s.heap.size post args s (.returned (v.map (zw_cv ad))) t :=
  ⟨⟨v, wl, ad, rfl, hq, a1, a2, a3, by rw [ht]; exact hP, by rw [← hA]; exact hD⟩, by rw [← hA]; exact hS.F ht⟩
/-- ends of a constructor -/
theorem zs_vretC (hA : A = zw_A ad0 wl0.length s.heap.size) (B : zw_B p l s m args meth c cc nL ret own nm Ts tb D dA A) (hr : ret = none) (hc : cells ≤ mc) (hs : slots ≤ ms) (hq : post none wl) (hdg : decode cc pc = .ok (.return_, 1)) :
    zw_k p l e R s m args below meth c (MQ below (zw_Qc D dA wl0 ad0 s.heap.size post) args s mc ms A) D dA A ad0 wl0.length nL cells slots wl pc lv [] := fun ad H locs ls a1 a2 a3 hP hD hS hl =>
  W.widen hc hs (W.vret B.1 B.2.1 (B.2.2.1.trans hr) (fun t ht hW => zw_end (v := none) hA hq a1 a2 a3 hP hD hS t ht) hS.2.2 hdg B.2.2.2.2.2.2.2.2.1)
theorem zs_vret (hA : A = zw_A ad0 wl0.length s.heap.size) (B : zw_B p l s m args meth c cc nL ret own nm Ts tb D dA A) (hr : ret = none) (hc : cells ≤ mc) (hs : slots ≤ ms) (hq : post none wl) (hdg : decode cc pc = .ok (.return_, 1)) :
    zw_k p l e R s m args below meth c (vx_MQ below (zw_Qc D dA wl0 ad0 s.heap.size post) (zw_XC D dA wl0 ad0 s.heap.size px) args s mc ms A) D dA A ad0 wl0.length nL cells slots wl pc lv [] := fun ad H locs ls a1 a2 a3 hP hD hS hl =>
  vx_ret (zs_vretC hA B hr hc hs hq hdg ad H locs ls a1 a2 a3 hP hD hS hl)
theorem zs_zret (hA : A = zw_A ad0 wl0.length s.heap.size) (B : zw_B p l s m args meth c cc nL ret own nm Ts tb D dA A) {ty : FieldType} {v : Int32} (hr : ret = some ty) (hn : narrow ty (.int v) = .int v) (hc : cells ≤ mc) (hs : slots ≤ ms) (hq : post (some (.int v)) wl) (hdg : decode cc pc = .ok (.ireturn, 1)) :
    zw_k p l e R s m args below meth c (vx_MQ below (zw_Qc D dA wl0 ad0 s.heap.size post) (zw_XC D dA wl0 ad0 s.heap.size px) args s mc ms A) D dA A ad0 wl0.length nL cells slots wl pc lv [.int v] := fun ad H locs ls a1 a2 a3 hP hD hS hl =>
  vx_ret (W.widen hc hs (W.zret B.1 B.2.1 (B.2.2.1.trans hr) hn (fun t ht hW => zw_end (v := some (.int v)) hA hq a1 a2 a3 hP hD hS t ht) hS.2.2 hdg B.2.2.2.2.2.2.2.2.1))
theorem zs_lret (hA : A = zw_A ad0 wl0.length s.heap.size) (B : zw_B p l s m args meth c cc nL ret own nm Ts tb D dA A) {v : Int64} (hr : ret = some .long) (hc : cells ≤ mc) (hs : slots ≤ ms) (hq : post (some (.long v)) wl) (hdg : decode cc pc = .ok (.lreturn, 1)) :
    zw_k p l e R s m args below meth c (vx_MQ below (zw_Qc D dA wl0 ad0 s.heap.size post) (zw_XC D dA wl0 ad0 s.heap.size px) args s mc ms A) D dA A ad0 wl0.length nL cells slots wl pc lv [.long v] := fun ad H locs ls a1 a2 a3 hP hD hS hl =>
  vx_ret (W.widen hc hs (W.lret B.1 B.2.1 (B.2.2.1.trans hr) (fun t ht hW => zw_end (v := some (.long v)) hA hq a1 a2 a3 hP hD hS t ht) hS.2.2 hdg B.2.2.2.2.2.2.2.2.1))
theorem zs_aret (hA : A = zw_A ad0 wl0.length s.heap.size) (B : zw_B p l s m args meth c cc nL ret own nm Ts tb D dA A) {rt : FieldType} {k : Nat} (hr : ret = some rt) (hrt : (∃ n, rt = .object n) ∨ ∃ t, rt = .array t) (hc : cells ≤ mc) (hs : slots ≤ ms) (hq : post (some (.ref k)) wl) (hdg : decode cc pc = .ok (.areturn, 1)) :
    zw_k p l e R s m args below meth c (vx_MQ below (zw_Qc D dA wl0 ad0 s.heap.size post) (zw_XC D dA wl0 ad0 s.heap.size px) args s mc ms A) D dA A ad0 wl0.length nL cells slots wl pc lv [.ref k] := fun ad H locs ls a1 a2 a3 hP hD hS hl =>
  vx_ret (W.widen hc hs (W.aret B.1 B.2.1 (B.2.2.1.trans hr) hrt (Or.inr ⟨ad k, rfl⟩) (fun t ht hW => zw_end (v := some (.ref k)) hA hq a1 a2 a3 hP hD hS t ht) hS.2.2 hdg B.2.2.2.2.2.2.2.2.1))
abbrev zw_up : List String := ["java/lang/RuntimeException", "java/lang/Exception"]
theorem zs_throw (hA : A = zw_A ad0 wl0.length s.heap.size) (B : zw_B p l s m args meth c cc nL ret own nm Ts [] D dA A) {cls text : String} {ik is ic fr : Nat} (hR : R = zw_rm fr mc ms) (hfr : 6 ≤ fr) (hcls : Bundle.fit cls = true) (hk : Cond.classLink own ik cls ∈ Ts) (hini : Cond.initialized cls ∈ Ts) (hstr : (own, is, text) ∈ zw_strs) (hcast : (cls, cls) ∈ zw_cast)
    (hat : ∀ w ∈ (vx_atS own ic cls zw_up).filter goodWord, w ∈ Ts) (hng : ∀ w ∈ (vx_atS own ic cls zw_up).filter (fun w => !goodWord w), w ∈ [Cond.castable cls cls]) (hgood : ∀ w ∈ Cond.classLink own ik cls :: Cond.initialized cls :: vx_atS own ic cls zw_up, vx_ot w = true)
    (d0 : decode cc pc = .ok (.new ik, 3)) (d3 : decode cc (pc + 3) = .ok (.dup, 1)) (d4 : decode cc (pc + 4) = .ok (.ldc is, 2)) (d6 : decode cc (pc + 6) = .ok (.invokespecial ic, 3)) (d9 : decode cc (pc + 9) = .ok (.athrow, 1))
    (hst : (st.map fun v => v.category).sum ≤ 8) (hc : cells + 1 ≤ mc) (hs : slots + 6 ≤ ms) (hx : px cls wl) :
    zw_k p l e R s m args below meth c (vx_MQ below (zw_Qc D dA wl0 ad0 s.heap.size post) (zw_XC D dA wl0 ad0 s.heap.size px) args s mc ms A) D dA A ad0 wl0.length nL cells slots wl pc lv st := fun ad H locs ls a1 a2 a3 hP hD hS hl => by
  subst hR
  have hts := B.2.2.2.2.2.1
  have hKK := B.2.2.2.2.2.2.1
  obtain ⟨sa, hsa⟩ := hKK.2.1 _ hstr
  have hcats : ((st.map (zw_cv ad)).map fun v => v.category).sum ≤ 8 := by
    rw [List.map_map]
    rw [show ((fun v : Value => v.category) ∘ zw_cv ad) = fun v => v.category from funext fun v => zw_cv_cat ad v]
    exact hst
  refine vx_throwS (own := own) (cls := cls) (text := text) (names := zw_up) (ik := ik) (is := is) (ic := ic) (sa := sa) (A := A) B.1 B.2.1 B.2.2.2.2.2.2.2.2.2.2.1 B.2.2.2.2.1 hcls (by decide +kernel) (hts _ hk) (hts _ hini) hsa
    (vx_hat (B := [Cond.castable cls cls]) (fun w hw => hts w (hat w hw)) hng (vx_c (va_Nw.use rfl (hKK.2.2.2.1 _ hcast)) vx_n)) hgood B.2.2.2.2.2.2.2.1.1 B.2.2.2.2.2.2.2.1.2 hS (hl.1.trans B.2.2.2.1.symm) d0 d3 d4 d6 d9
    (by rw [B.2.2.2.2.2.2.2.2.2.2.2.1]; intro x hx; cases hx) (by show 2 + 3 < fr; omega) (by show _ + (13 * (2 + 1) + 43) ≤ 36 * fr; omega) hc hs B.2.2.2.2.2.2.2.2.1 (fun t hvm hz ho => ?_) hS.2.2 hc hs
  refine ⟨⟨wl, ad, hx, a1, a2, a3, hP.kept (fun k q hk => ho q.1 ((hP k q hk).lt)), by rw [← hA]; exact hD⟩, ?_⟩
  rw [← hA]
  exact ⟨Nat.le_trans hS.1 hz, fun q h1 h2 => (ho q (Nat.lt_of_lt_of_le h1 hS.1)).trans (hS.2.1 q h1 h2)⟩
end ZR
end
section
/-! a call with a part of the world: is = the places of the callee's cells in the caller's world -/
abbrev zw_ix (is : List Nat) : Nat → Nat := fun j => is.getD j 0
def zw_rE (is : List Nat) (e : zw_E) : zw_E := match e with
  | .inl (t, n, .inr (.inr (.inr (.inr f)))) => .inl (t, n, .inr (.inr (.inr (.inr (fun j => (f j).map (zw_ix is))))))
  | .inl x => .inl x
  | .inr q => .inr (q.1, q.2.map (zw_cv (zw_ix is)))
def zw_backA (wl : List zw_E) : List Nat → List zw_E → List zw_E
  | [], _ => wl
  | i :: is, es => match es with
    | [] => wl
    | e :: es => (zw_backA wl is es).set i e
abbrev zw_back (wl : List zw_E) (is : List Nat) (es : List zw_E) : List zw_E := zw_backA wl is es
theorem zw_cv_cv (f g : Nat → Nat) (v : Value) : zw_cv f (zw_cv g v) = zw_cv (fun j => f (g j)) v := by cases v <;> rfl
theorem zw_cE_rE (dA : Nat → ClassId) (ad : Nat → Nat) (is : List Nat) (e : zw_E) : zw_cE dA ad (zw_rE is e) = zw_cE dA (fun j => ad (zw_ix is j)) e := by
  cases e with
  | inl x =>
    obtain ⟨t, n, x⟩ := x
    match x with
    | .inl f => rfl
    | .inr (.inl f) => rfl
    | .inr (.inr (.inl f)) => rfl
    | .inr (.inr (.inr (.inl f))) => rfl
    | .inr (.inr (.inr (.inr f))) =>
      show (.inl (dA t, n, .inr (.inr (.inr (.inr (fun j => ((f j).map (zw_ix is)).map ad)))))  : va_E) = .inl (dA t, n, .inr (.inr (.inr (.inr (fun j => (f j).map (fun j => ad (zw_ix is j)))))))
      have : (fun j => ((f j).map (zw_ix is)).map ad) = (fun j => (f j).map (fun j => ad (zw_ix is j))) := by
        funext j
        rw [Option.map_map]
        rfl
      rw [this]
  | inr q =>
    show (.inr (q.1, (q.2.map (zw_cv (zw_ix is))).map (zw_cv ad)) : va_E) = .inr (q.1, q.2.map (zw_cv (fun j => ad (zw_ix is j))))
    rw [List.map_map]
    have : (zw_cv ad ∘ zw_cv (zw_ix is)) = zw_cv (fun j => ad (zw_ix is j)) := funext fun v => zw_cv_cv _ _ v
    rw [this]
theorem zw_back_len : ∀ (is : List Nat) (es wl : List zw_E), (zw_back wl is es).length = wl.length
  | [], _, _ => rfl
  | _ :: _, [], _ => rfl
  | i :: is, e :: es, wl => by
    show ((zw_back wl is es).set i e).length = _
    rw [List.length_set, zw_back_len]
theorem zw_back_out : ∀ (is : List Nat) (es wl : List zw_E) (k : Nat), k ∉ is → (zw_back wl is es)[k]? = wl[k]?
  | [], _, _, _, _ => rfl
  | _ :: _, [], _, _, _ => rfl
  | i :: is, e :: es, wl, k, h => by
    show ((zw_back wl is es).set i e)[k]? = _
    rw [List.getElem?_set, if_neg (fun q => h (by rw [q]; exact List.mem_cons_self))]
    exact zw_back_out is es wl k (fun q => h (List.mem_cons_of_mem _ q))
theorem zw_back_in : ∀ (is : List Nat) (es wl : List zw_E) (j k : Nat), is.Nodup → is.length = es.length → (∀ i ∈ is, i < wl.length) → is[j]? = some k → (zw_back wl is es)[k]? = es[j]?
  | [], _, _, _, _, _, _, _, h => by cases h
  | _ :: _, [], _, _, _, _, h, _, _ => by cases h
  | i :: is, e :: es, wl, j, k, hn, hl, hb, h => by
    show ((zw_back wl is es).set i e)[k]? = _
    rw [List.getElem?_set, zw_back_len]
    have hn2 := List.nodup_cons.mp hn
    cases j with
    | zero =>
      cases h
      rw [if_pos rfl, if_pos (hb i List.mem_cons_self)]
      rfl
    | succ j =>
      have hk : k ∈ is := List.mem_of_getElem? h
      rw [if_neg (fun (q : i = k) => hn2.1 (by rw [q]; exact hk))]
      exact zw_back_in is es wl j k hn2.2 (Nat.succ.inj hl) (fun i hi => hb i (List.mem_cons_of_mem _ hi)) h
/-- the callee's cells, found in the caller's world -/
def zw_sel (wl : List zw_E) (is : List Nat) (wlc : List zw_E) : Prop := is.map (fun i => wl[i]?) = wlc.map (fun e => some (zw_rE is e))
theorem zw_sel_len {wl : List zw_E} {is : List Nat} {wlc : List zw_E} (h : zw_sel wl is wlc) : is.length = wlc.length := by
  have := congrArg List.length h
  rwa [List.length_map, List.length_map] at this
theorem zw_sel_at {wl : List zw_E} {is : List Nat} {wlc : List zw_E} (h : zw_sel wl is wlc) {j : Nat} {e : zw_E} (hj : wlc[j]? = some e) : ∃ i, is[j]? = some i ∧ wl[i]? = some (zw_rE is e) ∧ zw_ix is j = i := by
  have h1 := congrArg (fun l => l[j]?) h
  simp only [List.getElem?_map, hj, Option.map_some] at h1
  cases hi : is[j]? with
  | none => rw [hi] at h1; cases h1
  | some i =>
    rw [hi] at h1
    refine ⟨i, rfl, Option.some.inj h1, ?_⟩
    show is.getD j 0 = i
    rw [List.getD_eq_getElem?_getD, hi]; rfl
theorem zw_nd : ∀ {is : List Nat}, va_nd is = true → is.Nodup
  | [], _ => List.nodup_nil
  | a :: l, h => by
    unfold va_nd at h
    simp only [Bool.and_eq_true, decide_eq_true_eq] at h
    exact List.nodup_cons.mpr ⟨h.1, zw_nd h.2⟩
/-- the world behind a call that makes no cells -/
theorem zw_behind {D : va_G} {dA : Nat → ClassId} {A : Nat → Prop} {ad : Nat → Nat} {wl wlc wl' : List zw_E} {is : List Nat} {H H1 : Heap} (hsel : zw_sel wl is wlc) (hnd : va_nd is = true) (hP : va_P D vwCl (zw_of dA ad wl) H) (hD : va_D A (zw_of dA ad wl))
    (hlen : wl'.length = wlc.length) (hP1 : va_P D vwCl (zw_of dA (fun j => ad (zw_ix is j)) wl') H1) (hk : ∀ q : Nat, q < H.size → ¬ zw_A (fun j => ad (zw_ix is j)) wlc.length H.size q → H1[q]? = H[q]?) :
    va_P D vwCl (zw_of dA ad (zw_back wl is (wl'.map (zw_rE is)))) H1 ∧ va_D A (zw_of dA ad (zw_back wl is (wl'.map (zw_rE is)))) := by
  have hl := zw_sel_len hsel
  have hb : ∀ i ∈ is, i < wl.length := by
    intro i hi
    obtain ⟨j, hj⟩ := List.getElem?_of_mem hi
    have hjl : j < wlc.length := by rw [← hl]; exact (List.getElem?_eq_some_iff.mp hj).1
    obtain ⟨i', h1, h2, -⟩ := zw_sel_at hsel (List.getElem?_eq_getElem hjl)
    rw [hj] at h1
    cases h1
    exact zw_lt h2
  have hD0 := zw_D_iff.mp hD
  constructor
  · intro k q hq
    obtain ⟨e, he, rfl⟩ := zw_of_inv hq
    by_cases hki : k ∈ is
    · obtain ⟨j, hj⟩ := List.getElem?_of_mem hki
      rw [zw_back_in is _ wl j k (zw_nd hnd) (by rw [List.length_map, hl, hlen]) hb hj, List.getElem?_map] at he
      cases hw : wl'[j]? with
      | none => rw [hw] at he; cases he
      | some e' =>
        rw [hw] at he
        cases he
        have h1 := hP1 j _ (zw_of_at hw)
        rw [zw_cE_rE]
        have h2 : zw_ix is j = k := by
          show is.getD j 0 = k
          rw [List.getD_eq_getElem?_getD, hj]; rfl
        rw [h2] at h1
        exact h1
    · rw [zw_back_out is _ wl k hki] at he
      have h0 := hP k _ (zw_of_at he)
      refine h0.kept (hk (ad k) (h0.lt) ?_)
      rintro (⟨j, hj, e1⟩ | h2)
      · obtain ⟨i, h1, h2, h3⟩ := zw_sel_at hsel (List.getElem?_eq_getElem hj)
        have e2 : ad k = ad i := e1.trans (by show ad (zw_ix is j) = ad i; rw [h3])
        have := hD0.1 k i (zw_lt he) (zw_lt h2) e2
        exact hki (this ▸ List.mem_of_getElem? h1)
      · exact absurd (h0.lt) (Nat.not_lt.mpr h2)
  · rw [zw_D_iff, zw_back_len]
    exact hD0
section ZC
variable {p : Program} {l : Launch} {e : Env} {R : Room} {s : State} {m : MethodId} {args : Array Value} {below : List Frame} {meth : Method} {c : Code} {Q : State → Prop} {cc : ByteArray} {nL : Nat} {ret : Option FieldType} {own nm : String} {Ts : List Cond} {tb : List ExceptionTableEntry} {D : va_G} {dA : Nat → ClassId} {A : Nat → Prop} {ad0 : Nat → Nat} {n0 cells slots pc : Nat} {wl wlc : List zw_E} {lv : List (Option Value)} {rest : List Value}
/-- thrown over the frame: what follows -/
def zw_x (p : Program) (l : Launch) (e : Env) (R : Room) (s : State) (m : MethodId) (args : Array Value) (below : List Frame) (meth : Method) (c : Code) (Q : State → Prop) (D : va_G) (dA : Nat → ClassId) (A : Nat → Prop) (ad0 : Nat → Nat) (n0 nL : Nat) (cells slots : Nat) (E : String) (wl : List zw_E) (pc : Nat) (lv : List (Option Value)) (st : List Value) : Prop :=
  ∀ (ad : Nat → Nat) (H : Heap) (locs : List Loc) (ls : Array Slot) (q : Addr) (ce : Cell), (∀ k, k < n0 → ad k = ad0 k) → (wl.length = n0 → ad = ad0) → n0 ≤ wl.length → va_P D vwCl (zw_of dA ad wl) H → va_D A (zw_of dA ad wl) → va_S A s.heap H locs → zw_L ls nL ad lv → H[q]? = some ce → ce.vm = .none → s.vm.findClass E = some ce.cls → vx_W p l e R s m args below meth c H locs cells slots Q (F0 m pc ls (st.map (zw_cv ad))) q
theorem zw_callPre {as : List Value} {ad : Nat → Nat} {H : Heap} {locs : List Loc} {is : List Nat} {As : List Value} (B : zw_B p l s m args meth c cc nL ret own nm Ts tb D dA A) (hsel : zw_sel wl is wlc) (hnd : va_nd is = true) (hP : va_P D vwCl (zw_of dA ad wl) H) (hD : va_D A (zw_of dA ad wl)) (hS : va_S A s.heap H locs) (hAs : As = (as.map (zw_cv (zw_ix is))).map (zw_cv ad)) :
    PreS s H (zw_Pc D dA as wlc (fun j => ad (zw_ix is j)) H.size) As ∧ (∀ q, zw_A (fun j => ad (zw_ix is j)) wlc.length H.size q → A q) := by
  have hD0 := zw_D_iff.mp hD
  have hAA : ∀ q, zw_A (fun j => ad (zw_ix is j)) wlc.length H.size q → A q := by
    rintro q (⟨j, hj, rfl⟩ | h)
    · obtain ⟨i, h1, h2, h3⟩ := zw_sel_at hsel (List.getElem?_eq_getElem hj)
      show A (ad (zw_ix is j))
      rw [h3]
      exact hD0.2 i (zw_lt h2)
    · exact B.2.2.2.2.2.2.2.2.2.1 q (Nat.le_trans hS.1 h)
  refine ⟨⟨?_, ?_⟩, hAA⟩
  · rintro a U g mk ⟨q0, q1, q2, q3, q4, q5⟩
    exact ⟨q0, q1, q2, q3, zw_K.same (s := U) (U := U.calling g mk a) rfl q4, vx_Zq.moved (Vm.Alike.refl U.vm) q5.1, vx_Zq.moved (Vm.Alike.refl U.vm) q5.2⟩
  · intro U hU hW
    have hz : zw_Z A U H := ⟨vx_Zq.moved hW.alike (B.2.2.2.2.2.2.2.1.1.kept hS.2.1), vx_Zq.moved hW.alike (B.2.2.2.2.2.2.2.1.2.kept hS.2.1)⟩
    refine ⟨?_, by rw [hU], ?_, ?_, zw_K.warm hW B.2.2.2.2.2.2.1, ?_, ?_⟩
    · rw [hAs, List.map_map]
      congr 2
      exact funext fun v => zw_cv_cv _ _ v
    · rw [hU]
      intro j q hq
      obtain ⟨e1, he, rfl⟩ := zw_of_inv hq
      obtain ⟨i, h1, h2, h3⟩ := zw_sel_at hsel he
      have := hP i _ (zw_of_at h2)
      rw [zw_cE_rE] at this
      show va_at D vwCl (ad (zw_ix is j), _) H
      rw [h3]
      exact this
    · rw [zw_D_iff]
      refine ⟨fun j1 j2 h1 h2 e1 => ?_, fun _ _ => trivial⟩
      obtain ⟨i1, a1, a2, a3⟩ := zw_sel_at hsel (List.getElem?_eq_getElem h1)
      obtain ⟨i2, b1, b2, b3⟩ := zw_sel_at hsel (List.getElem?_eq_getElem h2)
      have e2 : ad i1 = ad i2 := by
        have : ad (zw_ix is j1) = ad (zw_ix is j2) := e1
        rwa [a3, b3] at this
      have e3 := hD0.1 i1 i2 (zw_lt a2) (zw_lt b2) e2
      subst e3
      exact va_nd_inj is hnd j1 j2 i1 a1 b1
    · rw [hU]; exact vx_Zq.narrow hz.1 hAA
    · rw [hU]; exact vx_Zq.narrow hz.2 hAA
theorem zw_runs {mc ms : Nat} {post : Option Value → List zw_E → Prop} {px : String → List zw_E → Prop} {is : List Nat} {ad : Nat → Nat} {H : Heap} {locs : List Loc} {ls : Array Slot} {st0 : List Value} {a9 : Array Value} (B : zw_B p l s m args meth c cc nL ret own nm Ts tb D dA A) (hsel : zw_sel wl is wlc) (hnd : va_nd is = true)
    (hlen : ∀ v wl', post v wl' → wl'.length = wlc.length) (hlx : ∀ E wl', px E wl' → wl'.length = wlc.length)
    (kx : ∀ E wl', px E wl' → zw_x p l e R s m args below meth c Q D dA A ad0 n0 nL (cells + mc) (slots + ms) E (zw_back wl is (wl'.map (zw_rE is))) pc lv rest)
    (kk : ∀ v wl', post v wl' → zw_k p l e R s m args below meth c Q D dA A ad0 n0 nL (cells + mc) (slots + ms) (zw_back wl is (wl'.map (zw_rE is))) (pc + 3) lv ((v.map (zw_cv (zw_ix is))).toList ++ rest))
    (a1 : ∀ k, k < n0 → ad k = ad0 k) (a2 : wl.length = n0 → ad = ad0) (a3 : n0 ≤ wl.length) (hP : va_P D vwCl (zw_of dA ad wl) H) (hD : va_D A (zw_of dA ad wl)) (hS : va_S A s.heap H locs) (hl : zw_L ls nL ad lv) (hAA : ∀ q, zw_A (fun j => ad (zw_ix is j)) wlc.length H.size q → A q)
    (hr : vx_Run p l e R s m args below meth c H locs cells slots mc ms (F0 m pc ls st0) (rest.map (zw_cv ad)) (zw_Qc D dA wlc (fun j => ad (zw_ix is j)) H.size post a9) (zw_XC D dA wlc (fun j => ad (zw_ix is j)) H.size px) (zw_A (fun j => ad (zw_ix is j)) wlc.length H.size)) : W p l e R s m args below meth c H locs cells slots Q (F0 m pc ls st0) := by
  intro T hT X
  rcases hr T hT X with ⟨v, st₀, t, T', L, h0, X', hL, e1, e2, ⟨⟨v', wl', ad', hv, hpost, b1, b2, b3, hP1, hD1⟩, hF⟩, stp⟩ | ⟨q, st₀, t, T', L, E, ce, h0, X', hL, e1, e2, ⟨⟨wl', ad', hpost, b1, b2, b3, hP1, hD1⟩, hF⟩, hce, hcv, hcl, stp⟩
  · have e3 := b2 (hlen _ _ hpost)
    subst e3
    cases hv
    obtain ⟨k1, k2, k3⟩ := vx_keep h0 e1 hS (fun q _ h => hAA q h) hAA hL hF
    obtain ⟨hPn, hDn⟩ := zw_behind (H1 := T'.heap) hsel hnd hP hD (hlen _ _ hpost) (by rw [e1]; exact hP1) k2
    have hw := kk v' wl' hpost ad T'.heap (locs ++ L) ls a1 (by rw [zw_back_len]; exact a2) (by rw [zw_back_len]; exact a3) hPn hDn k3 hl
    have e5 : ((v'.map (zw_cv (zw_ix is))).toList ++ rest).map (zw_cv ad) = (v'.map (zw_cv (fun j => ad (zw_ix is j)))).toList ++ rest.map (zw_cv ad) := by
      cases v' with
      | none => rfl
      | some v' => simp [zw_cv_cv]
    rw [e5] at hw
    obtain ⟨t2, q1, q2⟩ := hw T' rfl X'
    exact ⟨t2, stp t2 q1, q2⟩
  · have e3 := b2 (hlx _ _ hpost)
    subst e3
    obtain ⟨k1, k2, k3⟩ := vx_keep h0 e1 hS (fun q _ h => hAA q h) hAA hL hF
    obtain ⟨hPn, hDn⟩ := zw_behind (H1 := T'.heap) hsel hnd hP hD (hlx _ _ hpost) (by rw [e1]; exact hP1) k2
    obtain ⟨t2, q1, q2⟩ := kx E wl' hpost ad T'.heap (locs ++ L) ls q ce a1 (by rw [zw_back_len]; exact a2) (by rw [zw_back_len]; exact a3) hPn hDn k3 hl (by rw [e1]; exact hce) hcv hcl T' rfl X'
    exact ⟨t2, stp.trans q1, q2⟩
theorem zw_rest8 {ad : Nat → Nat} (h : (rest.map fun v => v.category).sum ≤ 8) {ls : Array Slot} {st0 : List Value} : 2 * (F0 m pc ls st0).monitorRoom + ((rest.map (zw_cv ad)).map fun v => v.category).sum ≤ 8 := by
  refine lv_room ?_
  rw [List.map_map]
  rw [show ((fun v : Value => v.category) ∘ zw_cv ad) = fun v => v.category from funext fun v => zw_cv_cat ad v]
  exact h
/-- an instance method called -/
theorem zs_callV {y : MethodName} {ws' ws'' : List Cond} {bytes : ByteArray} {maxL idx n fr mc ms : Nat} {ret' : Option FieldType} {as : List Value} {b : Nat} {post : Option Value → List zw_E → Prop} {px : String → List zw_E → Prop} {C : String} {T9 : u_T} {N9 ci : Nat} {fs : List Value} (is : List Nat) (B : zw_B p l s m args meth c cc nL ret own nm Ts tb D dA A) (hM : zw_Sp l D dA y ws' fr mc ms (.ref b :: as) wlc post px)
    (gg : GoodIn Ts (wsV own idx C y ws')) (hw : ws' = Cond.code y bytes maxL ret' :: ws'') (hd : y.cls = C ∧ y.cls ≠ "java/lang/invoke/MethodHandle" ∧ y.cls ≠ "java/lang/invoke/VarHandle" ∧ (parseMethodDescriptor y.desc).map (fun d => d.parameters.length) = some n) (hn : as.length = n)
    (hsel : zw_sel wl is wlc) (hnd : va_nd is = true) (hb : wlc[b]? = some (.inr (ci, fs))) (hci : vwCl[ci]? = some (C, T9, N9)) {st : List Value} (hst : st = (as.map (zw_cv (zw_ix is))).reverse ++ .ref (zw_ix is b) :: rest) (hR : fr + 1 ≤ R.frames ∧ 8 + (maxL + 11) + 36 * fr ≤ R.locals) (hrest : (rest.map fun v => v.category).sum ≤ 8) (hc : cells + mc ≤ R.cells ∧ slots + ms ≤ R.slots)
    (hdg : decode cc pc = .ok (.invokevirtual idx, 3)) (hlen : ∀ v wl', post v wl' → wl'.length = wlc.length) (hlx : ∀ E wl', px E wl' → wl'.length = wlc.length)
    (kx : ∀ E wl', px E wl' → zw_x p l e R s m args below meth c Q D dA A ad0 n0 nL (cells + mc) (slots + ms) E (zw_back wl is (wl'.map (zw_rE is))) pc lv rest)
    (kk : ∀ v wl', post v wl' → zw_k p l e R s m args below meth c Q D dA A ad0 n0 nL (cells + mc) (slots + ms) (zw_back wl is (wl'.map (zw_rE is))) (pc + 3) lv ((v.map (zw_cv (zw_ix is))).toList ++ rest)) :
    zw_k p l e R s m args below meth c Q D dA A ad0 n0 nL cells slots wl pc lv st := fun ad H locs ls a1 a2 a3 hP hD hS hl => by
  obtain ⟨hp, hAA⟩ := zw_callPre (as := .ref b :: as) B hsel hnd hP hD hS rfl
  subst hst
  obtain ⟨i, h1, h2, h3⟩ := zw_sel_at hsel hb
  have hrec := va_recv (q := (C, T9, N9)) B.2.2.2.2.2.2.1.1 hP hci (zw_of_at h2)
  refine zw_runs (a9 := (Value.ref (ad (zw_ix is b)) :: (as.map (zw_cv (zw_ix is))).map (zw_cv ad)).toArray) B hsel hnd hlen hlx kx kk a1 a2 a3 hP hD hS hl hAA ?_
  refine vx_runV (As := (as.map (zw_cv (zw_ix is))).map (zw_cv ad)) (C := C) (n := n) (rm := zw_rm fr mc ms) ⟨B.1, B.2.1, B.2.2.2.1, B.2.2.2.2.1, B.2.2.2.2.2.1⟩ (hM (fun j => ad (zw_ix is j)) H.size) (cwV n B.2.2.2.2.2.1 gg hw rfl rfl hd hR) ⟨hp.1, by rw [h3]; exact hrec, hp.2⟩ rfl (by rw [List.length_map, List.length_map]; exact hn) hl.1 ?_ (zw_rest8 hrest) hdg hc
  show ((as.map (zw_cv (zw_ix is))).reverse ++ .ref (zw_ix is b) :: rest).map (zw_cv ad) = _
  rw [List.map_append, List.map_reverse]
  rfl
/-- a static method called -/
theorem zs_callS {y : MethodName} {ws' ws'' : List Cond} {bytes : ByteArray} {maxL idx n fr mc ms : Nat} {ret' : Option FieldType} {as : List Value} {post : Option Value → List zw_E → Prop} {px : String → List zw_E → Prop} (is : List Nat) (B : zw_B p l s m args meth c cc nL ret own nm Ts tb D dA A) (hM : zw_Sp l D dA y ws' fr mc ms as wlc post px)
    (gg : GoodIn Ts (va_wsS own idx y ws')) (hw : ws' = Cond.code y bytes maxL ret' :: ws'') (hd : y.cls ≠ "java/lang/invoke/MethodHandle" ∧ y.cls ≠ "java/lang/invoke/VarHandle" ∧ (parseMethodDescriptor y.desc).map (fun d => d.parameters.length) = some n) (hn : as.length = n)
    (hsel : zw_sel wl is wlc) (hnd : va_nd is = true) {st : List Value} (hst : st = (as.map (zw_cv (zw_ix is))).reverse ++ rest) (hR : fr + 1 ≤ R.frames ∧ 8 + (maxL + 11) + 36 * fr ≤ R.locals) (hrest : (rest.map fun v => v.category).sum ≤ 8) (hc : cells + mc ≤ R.cells ∧ slots + ms ≤ R.slots)
    (hdg : decode cc pc = .ok (.invokestatic idx, 3)) (hlen : ∀ v wl', post v wl' → wl'.length = wlc.length) (hlx : ∀ E wl', px E wl' → wl'.length = wlc.length)
    (kx : ∀ E wl', px E wl' → zw_x p l e R s m args below meth c Q D dA A ad0 n0 nL (cells + mc) (slots + ms) E (zw_back wl is (wl'.map (zw_rE is))) pc lv rest)
    (kk : ∀ v wl', post v wl' → zw_k p l e R s m args below meth c Q D dA A ad0 n0 nL (cells + mc) (slots + ms) (zw_back wl is (wl'.map (zw_rE is))) (pc + 3) lv ((v.map (zw_cv (zw_ix is))).toList ++ rest)) :
    zw_k p l e R s m args below meth c Q D dA A ad0 n0 nL cells slots wl pc lv st := fun ad H locs ls a1 a2 a3 hP hD hS hl => by
  obtain ⟨hp, hAA⟩ := zw_callPre (as := as) B hsel hnd hP hD hS rfl
  subst hst
  refine zw_runs (a9 := ((as.map (zw_cv (zw_ix is))).map (zw_cv ad)).toArray) B hsel hnd hlen hlx kx kk a1 a2 a3 hP hD hS hl hAA ?_
  refine vx_runS (As := (as.map (zw_cv (zw_ix is))).map (zw_cv ad)) (n := n) (rm := zw_rm fr mc ms) ⟨B.1, B.2.1, B.2.2.2.1, B.2.2.2.2.1, B.2.2.2.2.2.1⟩ (hM (fun j => ad (zw_ix is j)) H.size) (va_cwS n B.2.2.2.2.2.1 gg hw rfl rfl hd hR) ⟨hp.1, hp.2⟩ rfl (by rw [List.length_map, List.length_map]; exact hn) hl.1 ?_ (zw_rest8 hrest) hdg hc
  show ((as.map (zw_cv (zw_ix is))).reverse ++ rest).map (zw_cv ad) = _
  rw [List.map_append, List.map_reverse]
/-- .. that has a table of its own -/
theorem zs_callSW {y : MethodName} {ws' ws'' : List Cond} {bytes : ByteArray} {maxL idx n fr mc ms : Nat} {ret' : Option FieldType} {hh : List (Nat × Nat × Nat × Nat)} {as : List Value} {post : Option Value → List zw_E → Prop} {px : String → List zw_E → Prop} (is : List Nat) (B : zw_B p l s m args meth c cc nL ret own nm Ts tb D dA A) (hM : zw_Sp l D dA y ws' fr mc ms as wlc post px)
    (gg : GoodIn Ts (va_wsS own idx y ws')) (hw : ws' = Cond.codeWith y bytes maxL ret' hh :: ws'') (hd : y.cls ≠ "java/lang/invoke/MethodHandle" ∧ y.cls ≠ "java/lang/invoke/VarHandle" ∧ (parseMethodDescriptor y.desc).map (fun d => d.parameters.length) = some n) (hn : as.length = n)
    (hsel : zw_sel wl is wlc) (hnd : va_nd is = true) {st : List Value} (hst : st = (as.map (zw_cv (zw_ix is))).reverse ++ rest) (hR : fr + 1 ≤ R.frames ∧ 8 + (maxL + 11) + 36 * fr ≤ R.locals) (hrest : (rest.map fun v => v.category).sum ≤ 8) (hc : cells + mc ≤ R.cells ∧ slots + ms ≤ R.slots)
    (hdg : decode cc pc = .ok (.invokestatic idx, 3)) (hlen : ∀ v wl', post v wl' → wl'.length = wlc.length) (hlx : ∀ E wl', px E wl' → wl'.length = wlc.length)
    (kx : ∀ E wl', px E wl' → zw_x p l e R s m args below meth c Q D dA A ad0 n0 nL (cells + mc) (slots + ms) E (zw_back wl is (wl'.map (zw_rE is))) pc lv rest)
    (kk : ∀ v wl', post v wl' → zw_k p l e R s m args below meth c Q D dA A ad0 n0 nL (cells + mc) (slots + ms) (zw_back wl is (wl'.map (zw_rE is))) (pc + 3) lv ((v.map (zw_cv (zw_ix is))).toList ++ rest)) :
    zw_k p l e R s m args below meth c Q D dA A ad0 n0 nL cells slots wl pc lv st := fun ad H locs ls a1 a2 a3 hP hD hS hl => by
  obtain ⟨hp, hAA⟩ := zw_callPre (as := as) B hsel hnd hP hD hS rfl
  subst hst
  refine zw_runs (a9 := ((as.map (zw_cv (zw_ix is))).map (zw_cv ad)).toArray) B hsel hnd hlen hlx kx kk a1 a2 a3 hP hD hS hl hAA ?_
  refine vx_runSX (As := (as.map (zw_cv (zw_ix is))).map (zw_cv ad)) (n := n) (rm := zw_rm fr mc ms) ⟨B.1, B.2.1, B.2.2.2.1, B.2.2.2.2.1, B.2.2.2.2.2.1⟩ (hM (fun j => ad (zw_ix is j)) H.size) (vx_cwSW n B.2.2.2.2.2.1 gg hw rfl rfl hd hR) ⟨hp.1, hp.2⟩ rfl (by rw [List.length_map, List.length_map]; exact hn) hl.1 ?_ (zw_rest8 hrest) hdg hc
  show ((as.map (zw_cv (zw_ix is))).reverse ++ rest).map (zw_cv ad) = _
  rw [List.map_append, List.map_reverse]
/-- not caught here -/
theorem zs_xout {wl0 : List zw_E} {E : String} {mc ms : Nat} {post : Option Value → List zw_E → Prop} {px : String → List zw_E → Prop} (hA : A = zw_A ad0 wl0.length s.heap.size) (B : zw_B p l s m args meth c cc nL ret own nm Ts [] D dA A) (hc : cells ≤ mc) (hs : slots ≤ ms) (hx : px E wl) :
    zw_x p l e R s m args below meth c (vx_MQ below (zw_Qc D dA wl0 ad0 s.heap.size post) (zw_XC D dA wl0 ad0 s.heap.size px) args s mc ms A) D dA A ad0 wl0.length nL cells slots E wl pc lv rest := fun ad H locs ls q ce a1 a2 a3 hP hD hS hl hce hcv hcl => by
  refine vx_out (by rw [B.2.2.2.2.2.2.2.2.2.2.2.1]; intro x hx; cases hx) B.2.2.2.2.2.2.2.2.1 hce hcv hcl (fun t ht hvm => ?_) hS.2.2 hc hs
  exact ⟨⟨wl, ad, hx, a1, a2, a3, by rw [ht]; exact hP, by rw [← hA]; exact hD⟩, by rw [← hA]; exact hS.F ht⟩
/-- caught here, and put away by the handler's first instruction -/
theorem zs_xcatch {E : String} {k : Fin 4} {i : Nat} (B : zw_B p l s m args meth c cc nL ret own nm Ts tb D dA A) (pre : List ExceptionTableEntry) (x : ExceptionTableEntry) (suf : List ExceptionTableEntry) (hsplit : tb = pre ++ x :: suf)
    (hpass : ∀ z ∈ pre, z.catchType ≠ 0 ∧ ∃ n9 : String, Cond.classLink own z.catchType n9 ∈ Ts ∧ (E, n9) ∈ zw_noc) (hx : covers x pc = true) (h0 : x.catchType ≠ 0) (hlink : Cond.classLink own x.catchType E ∈ Ts) (hcast : (E, E) ∈ zw_cast)
    (hd : decode cc x.handlerPc = .ok (.astore_n k, 1)) (hi : (k : Nat) = i) (hn : i < nL) (ok : zw_ok lv i = true) (kk : zw_k p l e R s m args below meth c Q D dA A ad0 n0 nL cells slots wl (x.handlerPc + 1) (lv.set i none) []) :
    zw_x p l e R s m args below meth c Q D dA A ad0 n0 nL cells slots E wl pc lv rest := fun ad H locs ls q ce a1 a2 a3 hP hD hS hl hce hcv hcl => by
  have hts := B.2.2.2.2.2.1
  have hKK := B.2.2.2.2.2.2.1
  refine vx_catch (E := E) (name := E) B.2.2.2.2.1 pre x suf (B.2.2.2.2.2.2.2.2.2.2.2.1.trans hsplit) (fun z hz => ?_) hx h0 (hts _ hlink) (va_Nw.use rfl (hKK.2.2.2.1 _ hcast)) hce hcv hcl ?_
  · obtain ⟨z0, n9, z1, z2⟩ := hpass z hz
    exact Or.inr ⟨z0, n9, hts _ z1, hKK.2.2.2.2.1 _ z2⟩
  · refine lv_astore_n B.1 B.2.1 hd hi hl.has hn rfl (fun ls' hl' => kk ad H locs ls' a1 a2 a3 hP hD hS ?_)
    refine ⟨hl'.1, hl'.2.1, fun j w hw => ?_⟩
    rw [List.getElem?_set] at hw
    by_cases e0 : i = j
    · rw [if_pos e0] at hw
      split at hw <;> cases hw
    · rw [if_neg e0] at hw
      refine hl'.2.2 (j, zw_cv ad w) (List.mem_cons_of_mem _ (List.mem_filter.mpr ⟨zw_ents_mem.mpr ⟨w, hw, rfl⟩, ?_⟩))
      have e1 : (j == i) = false := by simp; exact fun q => e0 q.symm
      rw [e1]
      by_cases e2 : j + 1 = i
      · subst e2
        unfold zw_ok at ok
        dsimp only at ok
        rw [hw] at ok
        rw [zw_cv_cat]
        cases w <;> simp_all [Value.category]
      · have e3 : (j + 1 == i) = false := by simp; exact e2
        simp [e3]
end ZC
end
section
/-! the field links, a row each -/
theorem wX4_init_10 {v : Value} (h1 : narrow (tyX4 0) v = v) (h2 : fits (tyX4 0) v = true) : zw_W wsX4_init RX4 10 4 0 true v := ⟨RX4, TX4, 4, (tyX4 0), rfl, by decide, by decide +kernel, by decide +kernel, rfl, rfl, tyX4_ok 0 (by decide), h1, h2⟩
theorem wX4_init_19 {v : Value} (h1 : narrow (tyX4 1) v = v) (h2 : fits (tyX4 1) v = true) : zw_W wsX4_init RX4 19 4 1 true v := ⟨RX4, TX4, 4, (tyX4 1), rfl, by decide, by decide +kernel, by decide +kernel, rfl, rfl, tyX4_ok 1 (by decide), h1, h2⟩
theorem wX4_init_26 {v : Value} (h1 : narrow (tyX4 2) v = v) (h2 : fits (tyX4 2) v = true) : zw_W wsX4_init RX4 26 4 2 true v := ⟨RX4, TX4, 4, (tyX4 2), rfl, by decide, by decide +kernel, by decide +kernel, rfl, rfl, tyX4_ok 2 (by decide), h1, h2⟩
theorem wX4_init_33 {v : Value} (h1 : narrow (tyX4 3) v = v) (h2 : fits (tyX4 3) v = true) : zw_W wsX4_init RX4 33 4 3 true v := ⟨RX4, TX4, 4, (tyX4 3), rfl, by decide, by decide +kernel, by decide +kernel, rfl, rfl, tyX4_ok 3 (by decide), h1, h2⟩
theorem fX4_put_10 : zw_F wsX4_put RX4 10 4 0 := ⟨RX4, TX4, 4, rfl, by decide, by decide +kernel, by decide +kernel, rfl⟩
theorem fX4_putIfAbsent_10 : zw_F wsX4_putIfAbsent RX4 10 4 0 := ⟨RX4, TX4, 4, rfl, by decide, by decide +kernel, by decide +kernel, rfl⟩
theorem fX4_get_10 : zw_F wsX4_get RX4 10 4 0 := ⟨RX4, TX4, 4, rfl, by decide, by decide +kernel, by decide +kernel, rfl⟩
theorem fX4_getOr_10 : zw_F wsX4_getOr RX4 10 4 0 := ⟨RX4, TX4, 4, rfl, by decide, by decide +kernel, by decide +kernel, rfl⟩
theorem fX4_replace_10 : zw_F wsX4_replace RX4 10 4 0 := ⟨RX4, TX4, 4, rfl, by decide, by decide +kernel, by decide +kernel, rfl⟩
theorem fX4_replaceIf_10 : zw_F wsX4_replaceIf RX4 10 4 0 := ⟨RX4, TX4, 4, rfl, by decide, by decide +kernel, by decide +kernel, rfl⟩
theorem fX4_look_10 : zw_F wsX4_look RX4 10 4 0 := ⟨RX4, TX4, 4, rfl, by decide, by decide +kernel, by decide +kernel, rfl⟩
theorem fX4_has_10 : zw_F wsX4_has RX4 10 4 0 := ⟨RX4, TX4, 4, rfl, by decide, by decide +kernel, by decide +kernel, rfl⟩
theorem fX4_remove_10 : zw_F wsX4_remove RX4 10 4 0 := ⟨RX4, TX4, 4, rfl, by decide, by decide +kernel, by decide +kernel, rfl⟩
theorem fX4_size_10 : zw_F wsX4_size RX4 10 4 0 := ⟨RX4, TX4, 4, rfl, by decide, by decide +kernel, by decide +kernel, rfl⟩
theorem fX4_size_69 : zw_FN wsX4_size RX4 69 0 0 := ⟨RX0, TX0, 4, rfl, by decide, by decide +kernel, by decide +kernel, rfl⟩
theorem fX4_limit_10 : zw_F wsX4_limit RX4 10 4 0 := ⟨RX4, TX4, 4, rfl, by decide, by decide +kernel, by decide +kernel, rfl⟩
theorem wX4_limit_83 {v : Value} (h1 : narrow (tyX0 2) v = v) (h2 : fits (tyX0 2) v = true) : zw_WN wsX4_limit RX4 83 0 2 v := ⟨RX0, TX0, 4, (tyX0 2), rfl, by decide, by decide +kernel, by decide +kernel, rfl, rfl, tyX0_ok 2 (by decide), h1, h2⟩
theorem fX4_way_10 : zw_F wsX4_way RX4 10 4 0 := ⟨RX4, TX4, 4, rfl, by decide, by decide +kernel, by decide +kernel, rfl⟩
theorem fX4_way_94 : zw_FN wsX4_way RX4 94 0 3 := ⟨RX0, TX0, 4, rfl, by decide, by decide +kernel, by decide +kernel, rfl⟩
theorem wX4_way_94 {v : Value} (h1 : narrow (tyX0 3) v = v) (h2 : fits (tyX0 3) v = true) : zw_WN wsX4_way RX4 94 0 3 v := ⟨RX0, TX0, 4, (tyX0 3), rfl, by decide, by decide +kernel, by decide +kernel, rfl, rfl, tyX0_ok 3 (by decide), h1, h2⟩
theorem fX4_keyAt_10 : zw_F wsX4_keyAt RX4 10 4 0 := ⟨RX4, TX4, 4, rfl, by decide, by decide +kernel, by decide +kernel, rfl⟩
theorem fX4_placeOf_10 : zw_F wsX4_placeOf RX4 10 4 0 := ⟨RX4, TX4, 4, rfl, by decide, by decide +kernel, by decide +kernel, rfl⟩
theorem fX4_setAt_10 : zw_F wsX4_setAt RX4 10 4 0 := ⟨RX4, TX4, 4, rfl, by decide, by decide +kernel, by decide +kernel, rfl⟩
theorem fX4_removeAt_10 : zw_F wsX4_removeAt RX4 10 4 0 := ⟨RX4, TX4, 4, rfl, by decide, by decide +kernel, by decide +kernel, rfl⟩
theorem fX4_thin_10 : zw_F wsX4_thin RX4 10 4 0 := ⟨RX4, TX4, 4, rfl, by decide, by decide +kernel, by decide +kernel, rfl⟩
theorem fX4_thin_69 : zw_FN wsX4_thin RX4 69 0 0 := ⟨RX0, TX0, 4, rfl, by decide, by decide +kernel, by decide +kernel, rfl⟩
theorem fX4_walk_26 : zw_F wsX4_walk RX4 26 4 2 := ⟨RX4, TX4, 4, rfl, by decide, by decide +kernel, by decide +kernel, rfl⟩
theorem fX4_walk_10 : zw_F wsX4_walk RX4 10 4 0 := ⟨RX4, TX4, 4, rfl, by decide, by decide +kernel, by decide +kernel, rfl⟩
theorem fX4_walk_69 : zw_FN wsX4_walk RX4 69 0 0 := ⟨RX0, TX0, 4, rfl, by decide, by decide +kernel, by decide +kernel, rfl⟩
theorem fX4_step_26 : zw_F wsX4_step RX4 26 4 2 := ⟨RX4, TX4, 4, rfl, by decide, by decide +kernel, by decide +kernel, rfl⟩
theorem fX4_step_10 : zw_F wsX4_step RX4 10 4 0 := ⟨RX4, TX4, 4, rfl, by decide, by decide +kernel, by decide +kernel, rfl⟩
theorem fX4_cut_26 : zw_F wsX4_cut RX4 26 4 2 := ⟨RX4, TX4, 4, rfl, by decide, by decide +kernel, by decide +kernel, rfl⟩
theorem fX4_cut_19 : zw_F wsX4_cut RX4 19 4 1 := ⟨RX4, TX4, 4, rfl, by decide, by decide +kernel, by decide +kernel, rfl⟩
theorem fX4_cut_10 : zw_F wsX4_cut RX4 10 4 0 := ⟨RX4, TX4, 4, rfl, by decide, by decide +kernel, by decide +kernel, rfl⟩
theorem fX4_cut_69 : zw_FN wsX4_cut RX4 69 0 0 := ⟨RX0, TX0, 4, rfl, by decide, by decide +kernel, by decide +kernel, rfl⟩
theorem fX4_moves_10 : zw_F wsX4_moves RX4 10 4 0 := ⟨RX4, TX4, 4, rfl, by decide, by decide +kernel, by decide +kernel, rfl⟩
theorem fX4_moves_69 : zw_FN wsX4_moves RX4 69 0 0 := ⟨RX0, TX0, 4, rfl, by decide, by decide +kernel, by decide +kernel, rfl⟩
theorem fX4_move_10 : zw_F wsX4_move RX4 10 4 0 := ⟨RX4, TX4, 4, rfl, by decide, by decide +kernel, by decide +kernel, rfl⟩
theorem fX4_move_69 : zw_FN wsX4_move RX4 69 0 0 := ⟨RX0, TX0, 4, rfl, by decide, by decide +kernel, by decide +kernel, rfl⟩
theorem fX4_move_170 : zw_FN wsX4_move RX4 170 0 1 := ⟨RX0, TX0, 4, rfl, by decide, by decide +kernel, by decide +kernel, rfl⟩
theorem fX4_crossings_10 : zw_F wsX4_crossings RX4 10 4 0 := ⟨RX4, TX4, 4, rfl, by decide, by decide +kernel, by decide +kernel, rfl⟩
theorem fX4_undo_19 : zw_F wsX4_undo RX4 19 4 1 := ⟨RX4, TX4, 4, rfl, by decide, by decide +kernel, by decide +kernel, rfl⟩
theorem fX4_undo_26 : zw_F wsX4_undo RX4 26 4 2 := ⟨RX4, TX4, 4, rfl, by decide, by decide +kernel, by decide +kernel, rfl⟩
theorem fX4_undo_10 : zw_F wsX4_undo RX4 10 4 0 := ⟨RX4, TX4, 4, rfl, by decide, by decide +kernel, by decide +kernel, rfl⟩
theorem fX4_isTrue_10 : zw_F wsX4_isTrue RX4 10 4 0 := ⟨RX4, TX4, 4, rfl, by decide, by decide +kernel, by decide +kernel, rfl⟩
theorem fX4_isTrue_69 : zw_FN wsX4_isTrue RX4 69 0 0 := ⟨RX0, TX0, 4, rfl, by decide, by decide +kernel, by decide +kernel, rfl⟩
theorem fX4_isTrue_170 : zw_FN wsX4_isTrue RX4 170 0 1 := ⟨RX0, TX0, 4, rfl, by decide, by decide +kernel, by decide +kernel, rfl⟩
theorem fX4_isTrue_83 : zw_FN wsX4_isTrue RX4 83 0 2 := ⟨RX0, TX0, 4, rfl, by decide, by decide +kernel, by decide +kernel, rfl⟩
theorem fX4_checksum_10 : zw_F wsX4_checksum RX4 10 4 0 := ⟨RX4, TX4, 4, rfl, by decide, by decide +kernel, by decide +kernel, rfl⟩
theorem fX4_checksum_69 : zw_FN wsX4_checksum RX4 69 0 0 := ⟨RX0, TX0, 4, rfl, by decide, by decide +kernel, by decide +kernel, rfl⟩
theorem fX4_checksum_170 : zw_FN wsX4_checksum RX4 170 0 1 := ⟨RX0, TX0, 4, rfl, by decide, by decide +kernel, by decide +kernel, rfl⟩
theorem fX4_checksum_83 : zw_FN wsX4_checksum RX4 83 0 2 := ⟨RX0, TX0, 4, rfl, by decide, by decide +kernel, by decide +kernel, rfl⟩
theorem fX4_checksum_94 : zw_FN wsX4_checksum RX4 94 0 3 := ⟨RX0, TX0, 4, rfl, by decide, by decide +kernel, by decide +kernel, rfl⟩
theorem fX4_checksum_19 : zw_F wsX4_checksum RX4 19 4 1 := ⟨RX4, TX4, 4, rfl, by decide, by decide +kernel, by decide +kernel, rfl⟩
theorem fX4_beginChange_26 : zw_F wsX4_beginChange RX4 26 4 2 := ⟨RX4, TX4, 4, rfl, by decide, by decide +kernel, by decide +kernel, rfl⟩
theorem fX4_beginChange_19 : zw_F wsX4_beginChange RX4 19 4 1 := ⟨RX4, TX4, 4, rfl, by decide, by decide +kernel, by decide +kernel, rfl⟩
theorem fX4_beginChange_10 : zw_F wsX4_beginChange RX4 10 4 0 := ⟨RX4, TX4, 4, rfl, by decide, by decide +kernel, by decide +kernel, rfl⟩
theorem fX4_movesGiveAsking_33 : zw_F wsX4_movesGiveAsking RX4 33 4 3 := ⟨RX4, TX4, 4, rfl, by decide, by decide +kernel, by decide +kernel, rfl⟩
theorem fX4_movesGiveAsking_10 : zw_F wsX4_movesGiveAsking RX4 10 4 0 := ⟨RX4, TX4, 4, rfl, by decide, by decide +kernel, by decide +kernel, rfl⟩
theorem fX4_movesGiveAsking_69 : zw_FN wsX4_movesGiveAsking RX4 69 0 0 := ⟨RX0, TX0, 4, rfl, by decide, by decide +kernel, by decide +kernel, rfl⟩
theorem fX4_movesGiveAsking_170 : zw_FN wsX4_movesGiveAsking RX4 170 0 1 := ⟨RX0, TX0, 4, rfl, by decide, by decide +kernel, by decide +kernel, rfl⟩
theorem fX4_refuseAbsentKey_10 : zw_F wsX4_refuseAbsentKey RX4 10 4 0 := ⟨RX4, TX4, 4, rfl, by decide, by decide +kernel, by decide +kernel, rfl⟩
theorem fX4_refuseUnknownPlace_10 : zw_F wsX4_refuseUnknownPlace RX4 10 4 0 := ⟨RX4, TX4, 4, rfl, by decide, by decide +kernel, by decide +kernel, rfl⟩
theorem fX4_refuseUnknownPlace_69 : zw_FN wsX4_refuseUnknownPlace RX4 69 0 0 := ⟨RX0, TX0, 4, rfl, by decide, by decide +kernel, by decide +kernel, rfl⟩
theorem wX5_init_9 {v : Value} (h1 : narrow (tyX5 0) v = v) (h2 : fits (tyX5 0) v = true) : zw_W wsX5_init RX5 9 5 0 true v := ⟨RX5, TX5, 19, (tyX5 0), rfl, by decide, by decide +kernel, by decide +kernel, rfl, rfl, tyX5_ok 0 (by decide), h1, h2⟩
theorem wX5_init_13 {v : Value} (h1 : narrow (tyX5 1) v = v) (h2 : fits (tyX5 1) v = true) : zw_W wsX5_init RX5 13 5 1 true v := ⟨RX5, TX5, 19, (tyX5 1), rfl, by decide, by decide +kernel, by decide +kernel, rfl, rfl, tyX5_ok 1 (by decide), h1, h2⟩
theorem wX5_init_16 {v : Value} (h1 : narrow (tyX5 2) v = v) (h2 : fits (tyX5 2) v = true) : zw_W wsX5_init RX5 16 5 2 true v := ⟨RX5, TX5, 19, (tyX5 2), rfl, by decide, by decide +kernel, by decide +kernel, rfl, rfl, tyX5_ok 2 (by decide), h1, h2⟩
theorem wX5_init_19 {v : Value} (h1 : narrow (tyX5 4) v = v) (h2 : fits (tyX5 4) v = true) : zw_W wsX5_init RX5 19 5 4 false v := ⟨RX5, TX5, 19, (tyX5 4), rfl, by decide, by decide +kernel, by decide +kernel, rfl, rfl, tyX5_ok 4 (by decide), h1, h2⟩
theorem wX5_init_23 {v : Value} (h1 : narrow (tyX5 5) v = v) (h2 : fits (tyX5 5) v = true) : zw_W wsX5_init RX5 23 5 5 false v := ⟨RX5, TX5, 19, (tyX5 5), rfl, by decide, by decide +kernel, by decide +kernel, rfl, rfl, tyX5_ok 5 (by decide), h1, h2⟩
theorem wX5_init_29 {v : Value} (h1 : narrow (tyX5 6) v = v) (h2 : fits (tyX5 6) v = true) : zw_W wsX5_init RX5 29 5 6 true v := ⟨RX5, TX5, 19, (tyX5 6), rfl, by decide, by decide +kernel, by decide +kernel, rfl, rfl, tyX5_ok 6 (by decide), h1, h2⟩
theorem wX5_init_32 {v : Value} (h1 : narrow (tyX5 7) v = v) (h2 : fits (tyX5 7) v = true) : zw_W wsX5_init RX5 32 5 7 true v := ⟨RX5, TX5, 19, (tyX5 7), rfl, by decide, by decide +kernel, by decide +kernel, rfl, rfl, tyX5_ok 7 (by decide), h1, h2⟩
theorem wX5_init_35 {v : Value} (h1 : narrow (tyX5 8) v = v) (h2 : fits (tyX5 8) v = true) : zw_W wsX5_init RX5 35 5 8 true v := ⟨RX5, TX5, 19, (tyX5 8), rfl, by decide, by decide +kernel, by decide +kernel, rfl, rfl, tyX5_ok 8 (by decide), h1, h2⟩
theorem wX5_init_38 {v : Value} (h1 : narrow (tyX5 9) v = v) (h2 : fits (tyX5 9) v = true) : zw_W wsX5_init RX5 38 5 9 true v := ⟨RX5, TX5, 19, (tyX5 9), rfl, by decide, by decide +kernel, by decide +kernel, rfl, rfl, tyX5_ok 9 (by decide), h1, h2⟩
theorem wX5_init_41 {v : Value} (h1 : narrow (tyX5 10) v = v) (h2 : fits (tyX5 10) v = true) : zw_W wsX5_init RX5 41 5 10 true v := ⟨RX5, TX5, 19, (tyX5 10), rfl, by decide, by decide +kernel, by decide +kernel, rfl, rfl, tyX5_ok 10 (by decide), h1, h2⟩
theorem wX5_init_44 {v : Value} (h1 : narrow (tyX5 11) v = v) (h2 : fits (tyX5 11) v = true) : zw_W wsX5_init RX5 44 5 11 true v := ⟨RX5, TX5, 19, (tyX5 11), rfl, by decide, by decide +kernel, by decide +kernel, rfl, rfl, tyX5_ok 11 (by decide), h1, h2⟩
theorem wX5_init_48 {v : Value} (h1 : narrow (tyX5 14) v = v) (h2 : fits (tyX5 14) v = true) : zw_W wsX5_init RX5 48 5 14 true v := ⟨RX5, TX5, 19, (tyX5 14), rfl, by decide, by decide +kernel, by decide +kernel, rfl, rfl, tyX5_ok 14 (by decide), h1, h2⟩
theorem wX5_init_51 {v : Value} (h1 : narrow (tyX5 17) v = v) (h2 : fits (tyX5 17) v = true) : zw_W wsX5_init RX5 51 5 17 false v := ⟨RX5, TX5, 19, (tyX5 17), rfl, by decide, by decide +kernel, by decide +kernel, rfl, rfl, tyX5_ok 17 (by decide), h1, h2⟩
theorem fX5_thrown_54 : zw_F wsX5_thrown RX5 54 5 18 := ⟨RX5, TX5, 19, rfl, by decide, by decide +kernel, by decide +kernel, rfl⟩
theorem wX5_no_54 {v : Value} (h1 : narrow (tyX5 18) v = v) (h2 : fits (tyX5 18) v = true) : zw_W wsX5_no RX5 54 5 18 false v := ⟨RX5, TX5, 19, (tyX5 18), rfl, by decide, by decide +kernel, by decide +kernel, rfl, rfl, tyX5_ok 18 (by decide), h1, h2⟩
theorem fX5_row_9 : zw_F wsX5_row RX5 9 5 0 := ⟨RX5, TX5, 19, rfl, by decide, by decide +kernel, by decide +kernel, rfl⟩
theorem fX5_row_16 : zw_F wsX5_row RX5 16 5 2 := ⟨RX5, TX5, 19, rfl, by decide, by decide +kernel, by decide +kernel, rfl⟩
theorem fX5_place_57 : zw_F wsX5_place RX5 57 5 3 := ⟨RX5, TX5, 19, rfl, by decide, by decide +kernel, by decide +kernel, rfl⟩
theorem fX5_moved_29 : zw_F wsX5_moved RX5 29 5 6 := ⟨RX5, TX5, 19, rfl, by decide, by decide +kernel, by decide +kernel, rfl⟩
theorem fX5_moved_32 : zw_F wsX5_moved RX5 32 5 7 := ⟨RX5, TX5, 19, rfl, by decide, by decide +kernel, by decide +kernel, rfl⟩
theorem fX5_moved_35 : zw_F wsX5_moved RX5 35 5 8 := ⟨RX5, TX5, 19, rfl, by decide, by decide +kernel, by decide +kernel, rfl⟩
theorem fX5_moved_38 : zw_F wsX5_moved RX5 38 5 9 := ⟨RX5, TX5, 19, rfl, by decide, by decide +kernel, by decide +kernel, rfl⟩
theorem fX5_moved_41 : zw_F wsX5_moved RX5 41 5 10 := ⟨RX5, TX5, 19, rfl, by decide, by decide +kernel, by decide +kernel, rfl⟩
theorem fX5_moved_44 : zw_F wsX5_moved RX5 44 5 11 := ⟨RX5, TX5, 19, rfl, by decide, by decide +kernel, by decide +kernel, rfl⟩
theorem fX5_keeps_64 : zw_F wsX5_keeps RX5 64 5 12 := ⟨RX5, TX5, 19, rfl, by decide, by decide +kernel, by decide +kernel, rfl⟩
theorem wX5_keeps_64 {v : Value} (h1 : narrow (tyX5 12) v = v) (h2 : fits (tyX5 12) v = true) : zw_W wsX5_keeps RX5 64 5 12 false v := ⟨RX5, TX5, 19, (tyX5 12), rfl, by decide, by decide +kernel, by decide +kernel, rfl, rfl, tyX5_ok 12 (by decide), h1, h2⟩
theorem fX5_keeps_9 : zw_F wsX5_keeps RX5 9 5 0 := ⟨RX5, TX5, 19, rfl, by decide, by decide +kernel, by decide +kernel, rfl⟩
theorem fX5_keeps_29 : zw_F wsX5_keeps RX5 29 5 6 := ⟨RX5, TX5, 19, rfl, by decide, by decide +kernel, by decide +kernel, rfl⟩
theorem fX5_keeps_13 : zw_F wsX5_keeps RX5 13 5 1 := ⟨RX5, TX5, 19, rfl, by decide, by decide +kernel, by decide +kernel, rfl⟩
theorem fX5_keeps_32 : zw_F wsX5_keeps RX5 32 5 7 := ⟨RX5, TX5, 19, rfl, by decide, by decide +kernel, by decide +kernel, rfl⟩
theorem fX5_keeps_16 : zw_F wsX5_keeps RX5 16 5 2 := ⟨RX5, TX5, 19, rfl, by decide, by decide +kernel, by decide +kernel, rfl⟩
theorem fX5_keeps_35 : zw_F wsX5_keeps RX5 35 5 8 := ⟨RX5, TX5, 19, rfl, by decide, by decide +kernel, by decide +kernel, rfl⟩
theorem fX5_keeps_38 : zw_F wsX5_keeps RX5 38 5 9 := ⟨RX5, TX5, 19, rfl, by decide, by decide +kernel, by decide +kernel, rfl⟩
theorem fX5_keeps_57 : zw_F wsX5_keeps RX5 57 5 3 := ⟨RX5, TX5, 19, rfl, by decide, by decide +kernel, by decide +kernel, rfl⟩
theorem fX5_keeps_41 : zw_F wsX5_keeps RX5 41 5 10 := ⟨RX5, TX5, 19, rfl, by decide, by decide +kernel, by decide +kernel, rfl⟩
theorem fX5_keeps_19 : zw_F wsX5_keeps RX5 19 5 4 := ⟨RX5, TX5, 19, rfl, by decide, by decide +kernel, by decide +kernel, rfl⟩
theorem fX5_keeps_44 : zw_F wsX5_keeps RX5 44 5 11 := ⟨RX5, TX5, 19, rfl, by decide, by decide +kernel, by decide +kernel, rfl⟩
theorem fX5_keeps_23 : zw_F wsX5_keeps RX5 23 5 5 := ⟨RX5, TX5, 19, rfl, by decide, by decide +kernel, by decide +kernel, rfl⟩
theorem wX5_changes_74 {v : Value} (h1 : narrow (tyX5 13) v = v) (h2 : fits (tyX5 13) v = true) : zw_W wsX5_changes RX5 74 5 13 false v := ⟨RX5, TX5, 19, (tyX5 13), rfl, by decide, by decide +kernel, by decide +kernel, rfl, rfl, tyX5_ok 13 (by decide), h1, h2⟩
theorem fX5_touched_16 : zw_F wsX5_touched RX5 16 5 2 := ⟨RX5, TX5, 19, rfl, by decide, by decide +kernel, by decide +kernel, rfl⟩
theorem fX5_touched_57 : zw_F wsX5_touched RX5 57 5 3 := ⟨RX5, TX5, 19, rfl, by decide, by decide +kernel, by decide +kernel, rfl⟩
theorem fX5_out_9 : zw_F wsX5_out RX5 9 5 0 := ⟨RX5, TX5, 19, rfl, by decide, by decide +kernel, by decide +kernel, rfl⟩
theorem fX5_out_57 : zw_F wsX5_out RX5 57 5 3 := ⟨RX5, TX5, 19, rfl, by decide, by decide +kernel, by decide +kernel, rfl⟩
theorem fX5_out_13 : zw_F wsX5_out RX5 13 5 1 := ⟨RX5, TX5, 19, rfl, by decide, by decide +kernel, by decide +kernel, rfl⟩
theorem fX5_out_16 : zw_F wsX5_out RX5 16 5 2 := ⟨RX5, TX5, 19, rfl, by decide, by decide +kernel, by decide +kernel, rfl⟩
theorem wX5_out_57 {v : Value} (h1 : narrow (tyX5 3) v = v) (h2 : fits (tyX5 3) v = true) : zw_W wsX5_out RX5 57 5 3 false v := ⟨RX5, TX5, 19, (tyX5 3), rfl, by decide, by decide +kernel, by decide +kernel, rfl, rfl, tyX5_ok 3 (by decide), h1, h2⟩
theorem fX5_comesIn_9 : zw_F wsX5_comesIn RX5 9 5 0 := ⟨RX5, TX5, 19, rfl, by decide, by decide +kernel, by decide +kernel, rfl⟩
theorem fX5_comesIn_57 : zw_F wsX5_comesIn RX5 57 5 3 := ⟨RX5, TX5, 19, rfl, by decide, by decide +kernel, by decide +kernel, rfl⟩
theorem fX5_comesIn_13 : zw_F wsX5_comesIn RX5 13 5 1 := ⟨RX5, TX5, 19, rfl, by decide, by decide +kernel, by decide +kernel, rfl⟩
theorem fX5_comesIn_16 : zw_F wsX5_comesIn RX5 16 5 2 := ⟨RX5, TX5, 19, rfl, by decide, by decide +kernel, by decide +kernel, rfl⟩
theorem wX5_comesIn_57 {v : Value} (h1 : narrow (tyX5 3) v = v) (h2 : fits (tyX5 3) v = true) : zw_W wsX5_comesIn RX5 57 5 3 false v := ⟨RX5, TX5, 19, (tyX5 3), rfl, by decide, by decide +kernel, by decide +kernel, rfl, rfl, tyX5_ok 3 (by decide), h1, h2⟩
theorem fX5_comesIn_19 : zw_F wsX5_comesIn RX5 19 5 4 := ⟨RX5, TX5, 19, rfl, by decide, by decide +kernel, by decide +kernel, rfl⟩
theorem fX5_comesIn_23 : zw_F wsX5_comesIn RX5 23 5 5 := ⟨RX5, TX5, 19, rfl, by decide, by decide +kernel, by decide +kernel, rfl⟩
theorem fX5_put_9 : zw_F wsX5_put RX5 9 5 0 := ⟨RX5, TX5, 19, rfl, by decide, by decide +kernel, by decide +kernel, rfl⟩
theorem fX5_put_13 : zw_F wsX5_put RX5 13 5 1 := ⟨RX5, TX5, 19, rfl, by decide, by decide +kernel, by decide +kernel, rfl⟩
theorem fX5_putIfAbsent_9 : zw_F wsX5_putIfAbsent RX5 9 5 0 := ⟨RX5, TX5, 19, rfl, by decide, by decide +kernel, by decide +kernel, rfl⟩
theorem fX5_get_9 : zw_F wsX5_get RX5 9 5 0 := ⟨RX5, TX5, 19, rfl, by decide, by decide +kernel, by decide +kernel, rfl⟩
theorem fX5_get_13 : zw_F wsX5_get RX5 13 5 1 := ⟨RX5, TX5, 19, rfl, by decide, by decide +kernel, by decide +kernel, rfl⟩
theorem wX5_getOr_54 {v : Value} (h1 : narrow (tyX5 18) v = v) (h2 : fits (tyX5 18) v = true) : zw_W wsX5_getOr RX5 54 5 18 false v := ⟨RX5, TX5, 19, (tyX5 18), rfl, by decide, by decide +kernel, by decide +kernel, rfl, rfl, tyX5_ok 18 (by decide), h1, h2⟩
theorem fX5_getOr_9 : zw_F wsX5_getOr RX5 9 5 0 := ⟨RX5, TX5, 19, rfl, by decide, by decide +kernel, by decide +kernel, rfl⟩
theorem fX5_getOr_13 : zw_F wsX5_getOr RX5 13 5 1 := ⟨RX5, TX5, 19, rfl, by decide, by decide +kernel, by decide +kernel, rfl⟩
theorem wX5_replace_54 {v : Value} (h1 : narrow (tyX5 18) v = v) (h2 : fits (tyX5 18) v = true) : zw_W wsX5_replace RX5 54 5 18 false v := ⟨RX5, TX5, 19, (tyX5 18), rfl, by decide, by decide +kernel, by decide +kernel, rfl, rfl, tyX5_ok 18 (by decide), h1, h2⟩
theorem fX5_replace_9 : zw_F wsX5_replace RX5 9 5 0 := ⟨RX5, TX5, 19, rfl, by decide, by decide +kernel, by decide +kernel, rfl⟩
theorem fX5_replace_13 : zw_F wsX5_replace RX5 13 5 1 := ⟨RX5, TX5, 19, rfl, by decide, by decide +kernel, by decide +kernel, rfl⟩
theorem wX5_replaceIf_54 {v : Value} (h1 : narrow (tyX5 18) v = v) (h2 : fits (tyX5 18) v = true) : zw_W wsX5_replaceIf RX5 54 5 18 false v := ⟨RX5, TX5, 19, (tyX5 18), rfl, by decide, by decide +kernel, by decide +kernel, rfl, rfl, tyX5_ok 18 (by decide), h1, h2⟩
theorem fX5_replaceIf_9 : zw_F wsX5_replaceIf RX5 9 5 0 := ⟨RX5, TX5, 19, rfl, by decide, by decide +kernel, by decide +kernel, rfl⟩
theorem fX5_replaceIf_13 : zw_F wsX5_replaceIf RX5 13 5 1 := ⟨RX5, TX5, 19, rfl, by decide, by decide +kernel, by decide +kernel, rfl⟩
theorem fX5_look_9 : zw_F wsX5_look RX5 9 5 0 := ⟨RX5, TX5, 19, rfl, by decide, by decide +kernel, by decide +kernel, rfl⟩
theorem fX5_look_13 : zw_F wsX5_look RX5 13 5 1 := ⟨RX5, TX5, 19, rfl, by decide, by decide +kernel, by decide +kernel, rfl⟩
theorem wX5_has_54 {v : Value} (h1 : narrow (tyX5 18) v = v) (h2 : fits (tyX5 18) v = true) : zw_W wsX5_has RX5 54 5 18 false v := ⟨RX5, TX5, 19, (tyX5 18), rfl, by decide, by decide +kernel, by decide +kernel, rfl, rfl, tyX5_ok 18 (by decide), h1, h2⟩
theorem fX5_has_9 : zw_F wsX5_has RX5 9 5 0 := ⟨RX5, TX5, 19, rfl, by decide, by decide +kernel, by decide +kernel, rfl⟩
theorem fX5_remove_9 : zw_F wsX5_remove RX5 9 5 0 := ⟨RX5, TX5, 19, rfl, by decide, by decide +kernel, by decide +kernel, rfl⟩
theorem fX5_remove_13 : zw_F wsX5_remove RX5 13 5 1 := ⟨RX5, TX5, 19, rfl, by decide, by decide +kernel, by decide +kernel, rfl⟩
theorem wX5_size_54 {v : Value} (h1 : narrow (tyX5 18) v = v) (h2 : fits (tyX5 18) v = true) : zw_W wsX5_size RX5 54 5 18 false v := ⟨RX5, TX5, 19, (tyX5 18), rfl, by decide, by decide +kernel, by decide +kernel, rfl, rfl, tyX5_ok 18 (by decide), h1, h2⟩
theorem fX5_size_57 : zw_F wsX5_size RX5 57 5 3 := ⟨RX5, TX5, 19, rfl, by decide, by decide +kernel, by decide +kernel, rfl⟩
theorem wX5_limit_19 {v : Value} (h1 : narrow (tyX5 4) v = v) (h2 : fits (tyX5 4) v = true) : zw_W wsX5_limit RX5 19 5 4 false v := ⟨RX5, TX5, 19, (tyX5 4), rfl, by decide, by decide +kernel, by decide +kernel, rfl, rfl, tyX5_ok 4 (by decide), h1, h2⟩
theorem fX5_limit_57 : zw_F wsX5_limit RX5 57 5 3 := ⟨RX5, TX5, 19, rfl, by decide, by decide +kernel, by decide +kernel, rfl⟩
theorem fX5_limit_19 : zw_F wsX5_limit RX5 19 5 4 := ⟨RX5, TX5, 19, rfl, by decide, by decide +kernel, by decide +kernel, rfl⟩
theorem fX5_limit_23 : zw_F wsX5_limit RX5 23 5 5 := ⟨RX5, TX5, 19, rfl, by decide, by decide +kernel, by decide +kernel, rfl⟩
theorem fX5_way_23 : zw_F wsX5_way RX5 23 5 5 := ⟨RX5, TX5, 19, rfl, by decide, by decide +kernel, by decide +kernel, rfl⟩
theorem wX5_way_23 {v : Value} (h1 : narrow (tyX5 5) v = v) (h2 : fits (tyX5 5) v = true) : zw_W wsX5_way RX5 23 5 5 false v := ⟨RX5, TX5, 19, (tyX5 5), rfl, by decide, by decide +kernel, by decide +kernel, rfl, rfl, tyX5_ok 5 (by decide), h1, h2⟩
theorem fX5_keyAt_57 : zw_F wsX5_keyAt RX5 57 5 3 := ⟨RX5, TX5, 19, rfl, by decide, by decide +kernel, by decide +kernel, rfl⟩
theorem fX5_setAt_57 : zw_F wsX5_setAt RX5 57 5 3 := ⟨RX5, TX5, 19, rfl, by decide, by decide +kernel, by decide +kernel, rfl⟩
theorem fX5_setAt_9 : zw_F wsX5_setAt RX5 9 5 0 := ⟨RX5, TX5, 19, rfl, by decide, by decide +kernel, by decide +kernel, rfl⟩
theorem fX5_setAt_13 : zw_F wsX5_setAt RX5 13 5 1 := ⟨RX5, TX5, 19, rfl, by decide, by decide +kernel, by decide +kernel, rfl⟩
theorem fX5_removeAt_57 : zw_F wsX5_removeAt RX5 57 5 3 := ⟨RX5, TX5, 19, rfl, by decide, by decide +kernel, by decide +kernel, rfl⟩
theorem fX5_thin_57 : zw_F wsX5_thin RX5 57 5 3 := ⟨RX5, TX5, 19, rfl, by decide, by decide +kernel, by decide +kernel, rfl⟩
theorem wX5_walk_74 {v : Value} (h1 : narrow (tyX5 13) v = v) (h2 : fits (tyX5 13) v = true) : zw_W wsX5_walk RX5 74 5 13 false v := ⟨RX5, TX5, 19, (tyX5 13), rfl, by decide, by decide +kernel, by decide +kernel, rfl, rfl, tyX5_ok 13 (by decide), h1, h2⟩
theorem fX5_walk_48 : zw_F wsX5_walk RX5 48 5 14 := ⟨RX5, TX5, 19, rfl, by decide, by decide +kernel, by decide +kernel, rfl⟩
theorem fX5_walk_57 : zw_F wsX5_walk RX5 57 5 3 := ⟨RX5, TX5, 19, rfl, by decide, by decide +kernel, by decide +kernel, rfl⟩
theorem wX5_walk_112 {v : Value} (h1 : narrow (tyX5 15) v = v) (h2 : fits (tyX5 15) v = true) : zw_W wsX5_walk RX5 112 5 15 false v := ⟨RX5, TX5, 19, (tyX5 15), rfl, by decide, by decide +kernel, by decide +kernel, rfl, rfl, tyX5_ok 15 (by decide), h1, h2⟩
theorem wX5_walk_115 {v : Value} (h1 : narrow (tyX5 16) v = v) (h2 : fits (tyX5 16) v = true) : zw_W wsX5_walk RX5 115 5 16 false v := ⟨RX5, TX5, 19, (tyX5 16), rfl, by decide, by decide +kernel, by decide +kernel, rfl, rfl, tyX5_ok 16 (by decide), h1, h2⟩
theorem wX5_walk_51 {v : Value} (h1 : narrow (tyX5 17) v = v) (h2 : fits (tyX5 17) v = true) : zw_W wsX5_walk RX5 51 5 17 false v := ⟨RX5, TX5, 19, (tyX5 17), rfl, by decide, by decide +kernel, by decide +kernel, rfl, rfl, tyX5_ok 17 (by decide), h1, h2⟩
theorem fX5_step_74 : zw_F wsX5_step RX5 74 5 13 := ⟨RX5, TX5, 19, rfl, by decide, by decide +kernel, by decide +kernel, rfl⟩
theorem fX5_step_115 : zw_F wsX5_step RX5 115 5 16 := ⟨RX5, TX5, 19, rfl, by decide, by decide +kernel, by decide +kernel, rfl⟩
theorem fX5_step_112 : zw_F wsX5_step RX5 112 5 15 := ⟨RX5, TX5, 19, rfl, by decide, by decide +kernel, by decide +kernel, rfl⟩
theorem fX5_step_48 : zw_F wsX5_step RX5 48 5 14 := ⟨RX5, TX5, 19, rfl, by decide, by decide +kernel, by decide +kernel, rfl⟩
theorem wX5_step_51 {v : Value} (h1 : narrow (tyX5 17) v = v) (h2 : fits (tyX5 17) v = true) : zw_W wsX5_step RX5 51 5 17 false v := ⟨RX5, TX5, 19, (tyX5 17), rfl, by decide, by decide +kernel, by decide +kernel, rfl, rfl, tyX5_ok 17 (by decide), h1, h2⟩
theorem wX5_step_115 {v : Value} (h1 : narrow (tyX5 16) v = v) (h2 : fits (tyX5 16) v = true) : zw_W wsX5_step RX5 115 5 16 false v := ⟨RX5, TX5, 19, (tyX5 16), rfl, by decide, by decide +kernel, by decide +kernel, rfl, rfl, tyX5_ok 16 (by decide), h1, h2⟩
theorem fX5_step_51 : zw_F wsX5_step RX5 51 5 17 := ⟨RX5, TX5, 19, rfl, by decide, by decide +kernel, by decide +kernel, rfl⟩
theorem fX5_cut_74 : zw_F wsX5_cut RX5 74 5 13 := ⟨RX5, TX5, 19, rfl, by decide, by decide +kernel, by decide +kernel, rfl⟩
theorem fX5_cut_51 : zw_F wsX5_cut RX5 51 5 17 := ⟨RX5, TX5, 19, rfl, by decide, by decide +kernel, by decide +kernel, rfl⟩
theorem wX5_cut_51 {v : Value} (h1 : narrow (tyX5 17) v = v) (h2 : fits (tyX5 17) v = true) : zw_W wsX5_cut RX5 51 5 17 false v := ⟨RX5, TX5, 19, (tyX5 17), rfl, by decide, by decide +kernel, by decide +kernel, rfl, rfl, tyX5_ok 17 (by decide), h1, h2⟩
theorem fX5_cut_57 : zw_F wsX5_cut RX5 57 5 3 := ⟨RX5, TX5, 19, rfl, by decide, by decide +kernel, by decide +kernel, rfl⟩
theorem fX5_staying_57 : zw_F wsX5_staying RX5 57 5 3 := ⟨RX5, TX5, 19, rfl, by decide, by decide +kernel, by decide +kernel, rfl⟩
theorem fX5_staying_9 : zw_F wsX5_staying RX5 9 5 0 := ⟨RX5, TX5, 19, rfl, by decide, by decide +kernel, by decide +kernel, rfl⟩
theorem fX5_staying_16 : zw_F wsX5_staying RX5 16 5 2 := ⟨RX5, TX5, 19, rfl, by decide, by decide +kernel, by decide +kernel, rfl⟩
theorem wX5_moves_54 {v : Value} (h1 : narrow (tyX5 18) v = v) (h2 : fits (tyX5 18) v = true) : zw_W wsX5_moves RX5 54 5 18 false v := ⟨RX5, TX5, 19, (tyX5 18), rfl, by decide, by decide +kernel, by decide +kernel, rfl, rfl, tyX5_ok 18 (by decide), h1, h2⟩
theorem fX5_moves_57 : zw_F wsX5_moves RX5 57 5 3 := ⟨RX5, TX5, 19, rfl, by decide, by decide +kernel, by decide +kernel, rfl⟩
theorem fX5_move_57 : zw_F wsX5_move RX5 57 5 3 := ⟨RX5, TX5, 19, rfl, by decide, by decide +kernel, by decide +kernel, rfl⟩
theorem fX5_move_16 : zw_F wsX5_move RX5 16 5 2 := ⟨RX5, TX5, 19, rfl, by decide, by decide +kernel, by decide +kernel, rfl⟩
theorem wX5_crossings_54 {v : Value} (h1 : narrow (tyX5 18) v = v) (h2 : fits (tyX5 18) v = true) : zw_W wsX5_crossings RX5 54 5 18 false v := ⟨RX5, TX5, 19, (tyX5 18), rfl, by decide, by decide +kernel, by decide +kernel, rfl, rfl, tyX5_ok 18 (by decide), h1, h2⟩
theorem fX5_crossings_57 : zw_F wsX5_crossings RX5 57 5 3 := ⟨RX5, TX5, 19, rfl, by decide, by decide +kernel, by decide +kernel, rfl⟩
theorem fX5_crossings_16 : zw_F wsX5_crossings RX5 16 5 2 := ⟨RX5, TX5, 19, rfl, by decide, by decide +kernel, by decide +kernel, rfl⟩
theorem fX5_crossings_9 : zw_F wsX5_crossings RX5 9 5 0 := ⟨RX5, TX5, 19, rfl, by decide, by decide +kernel, by decide +kernel, rfl⟩
theorem fX5_undo_64 : zw_F wsX5_undo RX5 64 5 12 := ⟨RX5, TX5, 19, rfl, by decide, by decide +kernel, by decide +kernel, rfl⟩
theorem wX5_undo_64 {v : Value} (h1 : narrow (tyX5 12) v = v) (h2 : fits (tyX5 12) v = true) : zw_W wsX5_undo RX5 64 5 12 false v := ⟨RX5, TX5, 19, (tyX5 12), rfl, by decide, by decide +kernel, by decide +kernel, rfl, rfl, tyX5_ok 12 (by decide), h1, h2⟩
theorem fX5_undo_29 : zw_F wsX5_undo RX5 29 5 6 := ⟨RX5, TX5, 19, rfl, by decide, by decide +kernel, by decide +kernel, rfl⟩
theorem fX5_undo_9 : zw_F wsX5_undo RX5 9 5 0 := ⟨RX5, TX5, 19, rfl, by decide, by decide +kernel, by decide +kernel, rfl⟩
theorem fX5_undo_32 : zw_F wsX5_undo RX5 32 5 7 := ⟨RX5, TX5, 19, rfl, by decide, by decide +kernel, by decide +kernel, rfl⟩
theorem fX5_undo_13 : zw_F wsX5_undo RX5 13 5 1 := ⟨RX5, TX5, 19, rfl, by decide, by decide +kernel, by decide +kernel, rfl⟩
theorem fX5_undo_35 : zw_F wsX5_undo RX5 35 5 8 := ⟨RX5, TX5, 19, rfl, by decide, by decide +kernel, by decide +kernel, rfl⟩
theorem fX5_undo_16 : zw_F wsX5_undo RX5 16 5 2 := ⟨RX5, TX5, 19, rfl, by decide, by decide +kernel, by decide +kernel, rfl⟩
theorem fX5_undo_38 : zw_F wsX5_undo RX5 38 5 9 := ⟨RX5, TX5, 19, rfl, by decide, by decide +kernel, by decide +kernel, rfl⟩
theorem wX5_undo_57 {v : Value} (h1 : narrow (tyX5 3) v = v) (h2 : fits (tyX5 3) v = true) : zw_W wsX5_undo RX5 57 5 3 false v := ⟨RX5, TX5, 19, (tyX5 3), rfl, by decide, by decide +kernel, by decide +kernel, rfl, rfl, tyX5_ok 3 (by decide), h1, h2⟩
theorem fX5_undo_41 : zw_F wsX5_undo RX5 41 5 10 := ⟨RX5, TX5, 19, rfl, by decide, by decide +kernel, by decide +kernel, rfl⟩
theorem wX5_undo_19 {v : Value} (h1 : narrow (tyX5 4) v = v) (h2 : fits (tyX5 4) v = true) : zw_W wsX5_undo RX5 19 5 4 false v := ⟨RX5, TX5, 19, (tyX5 4), rfl, by decide, by decide +kernel, by decide +kernel, rfl, rfl, tyX5_ok 4 (by decide), h1, h2⟩
theorem fX5_undo_44 : zw_F wsX5_undo RX5 44 5 11 := ⟨RX5, TX5, 19, rfl, by decide, by decide +kernel, by decide +kernel, rfl⟩
theorem wX5_undo_23 {v : Value} (h1 : narrow (tyX5 5) v = v) (h2 : fits (tyX5 5) v = true) : zw_W wsX5_undo RX5 23 5 5 false v := ⟨RX5, TX5, 19, (tyX5 5), rfl, by decide, by decide +kernel, by decide +kernel, rfl, rfl, tyX5_ok 5 (by decide), h1, h2⟩
theorem wX5_undo_74 {v : Value} (h1 : narrow (tyX5 13) v = v) (h2 : fits (tyX5 13) v = true) : zw_W wsX5_undo RX5 74 5 13 false v := ⟨RX5, TX5, 19, (tyX5 13), rfl, by decide, by decide +kernel, by decide +kernel, rfl, rfl, tyX5_ok 13 (by decide), h1, h2⟩
theorem wX5_isTrue_54 {v : Value} (h1 : narrow (tyX5 18) v = v) (h2 : fits (tyX5 18) v = true) : zw_W wsX5_isTrue RX5 54 5 18 false v := ⟨RX5, TX5, 19, (tyX5 18), rfl, by decide, by decide +kernel, by decide +kernel, rfl, rfl, tyX5_ok 18 (by decide), h1, h2⟩
theorem wX5_checksum_54 {v : Value} (h1 : narrow (tyX5 18) v = v) (h2 : fits (tyX5 18) v = true) : zw_W wsX5_checksum RX5 54 5 18 false v := ⟨RX5, TX5, 19, (tyX5 18), rfl, by decide, by decide +kernel, by decide +kernel, rfl, rfl, tyX5_ok 18 (by decide), h1, h2⟩
theorem fX5_checksum_57 : zw_F wsX5_checksum RX5 57 5 3 := ⟨RX5, TX5, 19, rfl, by decide, by decide +kernel, by decide +kernel, rfl⟩
theorem fX5_checksum_9 : zw_F wsX5_checksum RX5 9 5 0 := ⟨RX5, TX5, 19, rfl, by decide, by decide +kernel, by decide +kernel, rfl⟩
theorem fX5_checksum_13 : zw_F wsX5_checksum RX5 13 5 1 := ⟨RX5, TX5, 19, rfl, by decide, by decide +kernel, by decide +kernel, rfl⟩
theorem fX5_checksum_16 : zw_F wsX5_checksum RX5 16 5 2 := ⟨RX5, TX5, 19, rfl, by decide, by decide +kernel, by decide +kernel, rfl⟩
theorem fX5_checksum_19 : zw_F wsX5_checksum RX5 19 5 4 := ⟨RX5, TX5, 19, rfl, by decide, by decide +kernel, by decide +kernel, rfl⟩
theorem fX5_checksum_23 : zw_F wsX5_checksum RX5 23 5 5 := ⟨RX5, TX5, 19, rfl, by decide, by decide +kernel, by decide +kernel, rfl⟩
theorem fX5_checksum_64 : zw_F wsX5_checksum RX5 64 5 12 := ⟨RX5, TX5, 19, rfl, by decide, by decide +kernel, by decide +kernel, rfl⟩
theorem wX0_init_12 {v : Value} (h1 : narrow (tyX0 0) v = v) (h2 : fits (tyX0 0) v = true) : zw_W wsX0_init RX0 12 0 0 true v := ⟨RX0, TX0, 4, (tyX0 0), rfl, by decide, by decide +kernel, by decide +kernel, rfl, rfl, tyX0_ok 0 (by decide), h1, h2⟩
theorem wX0_init_18 {v : Value} (h1 : narrow (tyX0 1) v = v) (h2 : fits (tyX0 1) v = true) : zw_W wsX0_init RX0 18 0 1 true v := ⟨RX0, TX0, 4, (tyX0 1), rfl, by decide, by decide +kernel, by decide +kernel, rfl, rfl, tyX0_ok 1 (by decide), h1, h2⟩
theorem wX0_init_21 {v : Value} (h1 : narrow (tyX0 2) v = v) (h2 : fits (tyX0 2) v = true) : zw_W wsX0_init RX0 21 0 2 false v := ⟨RX0, TX0, 4, (tyX0 2), rfl, by decide, by decide +kernel, by decide +kernel, rfl, rfl, tyX0_ok 2 (by decide), h1, h2⟩
theorem wX0_init_25 {v : Value} (h1 : narrow (tyX0 3) v = v) (h2 : fits (tyX0 3) v = true) : zw_W wsX0_init RX0 25 0 3 false v := ⟨RX0, TX0, 4, (tyX0 3), rfl, by decide, by decide +kernel, by decide +kernel, rfl, rfl, tyX0_ok 3 (by decide), h1, h2⟩
theorem fX0_row_18 : zw_F wsX0_row RX0 18 0 1 := ⟨RX0, TX0, 4, rfl, by decide, by decide +kernel, by decide +kernel, rfl⟩
theorem fX0_row_12 : zw_F wsX0_row RX0 12 0 0 := ⟨RX0, TX0, 4, rfl, by decide, by decide +kernel, by decide +kernel, rfl⟩
theorem fX0_holds_12 : zw_F wsX0_holds RX0 12 0 0 := ⟨RX0, TX0, 4, rfl, by decide, by decide +kernel, by decide +kernel, rfl⟩
theorem fX0_valueOf_12 : zw_F wsX0_valueOf RX0 12 0 0 := ⟨RX0, TX0, 4, rfl, by decide, by decide +kernel, by decide +kernel, rfl⟩
theorem fX0_giveKey_12 : zw_F wsX0_giveKey RX0 12 0 0 := ⟨RX0, TX0, 4, rfl, by decide, by decide +kernel, by decide +kernel, rfl⟩
theorem fX0_giveKey_18 : zw_F wsX0_giveKey RX0 18 0 1 := ⟨RX0, TX0, 4, rfl, by decide, by decide +kernel, by decide +kernel, rfl⟩
theorem fX0_touch_18 : zw_F wsX0_touch RX0 18 0 1 := ⟨RX0, TX0, 4, rfl, by decide, by decide +kernel, by decide +kernel, rfl⟩
theorem fX0_takeOut_12 : zw_F wsX0_takeOut RX0 12 0 0 := ⟨RX0, TX0, 4, rfl, by decide, by decide +kernel, by decide +kernel, rfl⟩
theorem fX0_takeOut_18 : zw_F wsX0_takeOut RX0 18 0 1 := ⟨RX0, TX0, 4, rfl, by decide, by decide +kernel, by decide +kernel, rfl⟩
theorem fX0_letIn_12 : zw_F wsX0_letIn RX0 12 0 0 := ⟨RX0, TX0, 4, rfl, by decide, by decide +kernel, by decide +kernel, rfl⟩
theorem fX0_letIn_21 : zw_F wsX0_letIn RX0 21 0 2 := ⟨RX0, TX0, 4, rfl, by decide, by decide +kernel, by decide +kernel, rfl⟩
theorem fX0_letIn_18 : zw_F wsX0_letIn RX0 18 0 1 := ⟨RX0, TX0, 4, rfl, by decide, by decide +kernel, by decide +kernel, rfl⟩
theorem fX0_dropWhatIsOver_12 : zw_F wsX0_dropWhatIsOver RX0 12 0 0 := ⟨RX0, TX0, 4, rfl, by decide, by decide +kernel, by decide +kernel, rfl⟩
theorem fX0_dropWhatIsOver_21 : zw_F wsX0_dropWhatIsOver RX0 21 0 2 := ⟨RX0, TX0, 4, rfl, by decide, by decide +kernel, by decide +kernel, rfl⟩
theorem fX0_dropEldest_25 : zw_F wsX0_dropEldest RX0 25 0 3 := ⟨RX0, TX0, 4, rfl, by decide, by decide +kernel, by decide +kernel, rfl⟩
theorem fX0_takeOutEach_12 : zw_F wsX0_takeOutEach RX0 12 0 0 := ⟨RX0, TX0, 4, rfl, by decide, by decide +kernel, by decide +kernel, rfl⟩
theorem fX0_staying_18 : zw_F wsX0_staying RX0 18 0 1 := ⟨RX0, TX0, 4, rfl, by decide, by decide +kernel, by decide +kernel, rfl⟩
theorem fX0_staying_12 : zw_F wsX0_staying RX0 12 0 0 := ⟨RX0, TX0, 4, rfl, by decide, by decide +kernel, by decide +kernel, rfl⟩
theorem fX0_crossedPairs_18 : zw_F wsX0_crossedPairs RX0 18 0 1 := ⟨RX0, TX0, 4, rfl, by decide, by decide +kernel, by decide +kernel, rfl⟩
theorem fX0_crossedPairs_12 : zw_F wsX0_crossedPairs RX0 12 0 0 := ⟨RX0, TX0, 4, rfl, by decide, by decide +kernel, by decide +kernel, rfl⟩
theorem fX0_become_12 : zw_F wsX0_become RX0 12 0 0 := ⟨RX0, TX0, 4, rfl, by decide, by decide +kernel, by decide +kernel, rfl⟩
theorem fX0_become_18 : zw_F wsX0_become RX0 18 0 1 := ⟨RX0, TX0, 4, rfl, by decide, by decide +kernel, by decide +kernel, rfl⟩
theorem fX0_become_21 : zw_F wsX0_become RX0 21 0 2 := ⟨RX0, TX0, 4, rfl, by decide, by decide +kernel, by decide +kernel, rfl⟩
theorem wX0_become_21 {v : Value} (h1 : narrow (tyX0 2) v = v) (h2 : fits (tyX0 2) v = true) : zw_W wsX0_become RX0 21 0 2 false v := ⟨RX0, TX0, 4, (tyX0 2), rfl, by decide, by decide +kernel, by decide +kernel, rfl, rfl, tyX0_ok 2 (by decide), h1, h2⟩
theorem fX0_become_25 : zw_F wsX0_become RX0 25 0 3 := ⟨RX0, TX0, 4, rfl, by decide, by decide +kernel, by decide +kernel, rfl⟩
theorem wX0_become_25 {v : Value} (h1 : narrow (tyX0 3) v = v) (h2 : fits (tyX0 3) v = true) : zw_W wsX0_become RX0 25 0 3 false v := ⟨RX0, TX0, 4, (tyX0 3), rfl, by decide, by decide +kernel, by decide +kernel, rfl, rfl, tyX0_ok 3 (by decide), h1, h2⟩
theorem wX1_init_11 {v : Value} (h1 : narrow (tyX1 0) v = v) (h2 : fits (tyX1 0) v = true) : zw_W wsX1_init RX1 11 1 0 true v := ⟨RX1, TX1, 3, (tyX1 0), rfl, by decide, by decide +kernel, by decide +kernel, rfl, rfl, tyX1_ok 0 (by decide), h1, h2⟩
theorem fX1_init_11 : zw_F wsX1_init RX1 11 1 0 := ⟨RX1, TX1, 3, rfl, by decide, by decide +kernel, by decide +kernel, rfl⟩
theorem wX1_init_18 {v : Value} (h1 : narrow (tyX1 1) v = v) (h2 : fits (tyX1 1) v = true) : zw_W wsX1_init RX1 18 1 1 false v := ⟨RX1, TX1, 3, (tyX1 1), rfl, by decide, by decide +kernel, by decide +kernel, rfl, rfl, tyX1_ok 1 (by decide), h1, h2⟩
theorem wX1_init_22 {v : Value} (h1 : narrow (tyX1 2) v = v) (h2 : fits (tyX1 2) v = true) : zw_W wsX1_init RX1 22 1 2 false v := ⟨RX1, TX1, 3, (tyX1 2), rfl, by decide, by decide +kernel, by decide +kernel, rfl, rfl, tyX1_ok 2 (by decide), h1, h2⟩
theorem fX1_kept_22 : zw_F wsX1_kept RX1 22 1 2 := ⟨RX1, TX1, 3, rfl, by decide, by decide +kernel, by decide +kernel, rfl⟩
theorem fX1_keep_18 : zw_F wsX1_keep RX1 18 1 1 := ⟨RX1, TX1, 3, rfl, by decide, by decide +kernel, by decide +kernel, rfl⟩
theorem fX1_keep_11 : zw_F wsX1_keep RX1 11 1 0 := ⟨RX1, TX1, 3, rfl, by decide, by decide +kernel, by decide +kernel, rfl⟩
theorem wX1_keep_18 {v : Value} (h1 : narrow (tyX1 1) v = v) (h2 : fits (tyX1 1) v = true) : zw_W wsX1_keep RX1 18 1 1 false v := ⟨RX1, TX1, 3, (tyX1 1), rfl, by decide, by decide +kernel, by decide +kernel, rfl, rfl, tyX1_ok 1 (by decide), h1, h2⟩
theorem fX1_keep_22 : zw_F wsX1_keep RX1 22 1 2 := ⟨RX1, TX1, 3, rfl, by decide, by decide +kernel, by decide +kernel, rfl⟩
theorem wX1_keep_22 {v : Value} (h1 : narrow (tyX1 2) v = v) (h2 : fits (tyX1 2) v = true) : zw_W wsX1_keep RX1 22 1 2 false v := ⟨RX1, TX1, 3, (tyX1 2), rfl, by decide, by decide +kernel, by decide +kernel, rfl, rfl, tyX1_ok 2 (by decide), h1, h2⟩
theorem fX1_bringBack_18 : zw_F wsX1_bringBack RX1 18 1 1 := ⟨RX1, TX1, 3, rfl, by decide, by decide +kernel, by decide +kernel, rfl⟩
theorem fX1_bringBack_11 : zw_F wsX1_bringBack RX1 11 1 0 := ⟨RX1, TX1, 3, rfl, by decide, by decide +kernel, by decide +kernel, rfl⟩
theorem fX1_bringBack_22 : zw_F wsX1_bringBack RX1 22 1 2 := ⟨RX1, TX1, 3, rfl, by decide, by decide +kernel, by decide +kernel, rfl⟩
theorem wX1_bringBack_18 {v : Value} (h1 : narrow (tyX1 1) v = v) (h2 : fits (tyX1 1) v = true) : zw_W wsX1_bringBack RX1 18 1 1 false v := ⟨RX1, TX1, 3, (tyX1 1), rfl, by decide, by decide +kernel, by decide +kernel, rfl, rfl, tyX1_ok 1 (by decide), h1, h2⟩
theorem wX1_bringBack_22 {v : Value} (h1 : narrow (tyX1 2) v = v) (h2 : fits (tyX1 2) v = true) : zw_W wsX1_bringBack RX1 22 1 2 false v := ⟨RX1, TX1, 3, (tyX1 2), rfl, by decide, by decide +kernel, by decide +kernel, rfl, rfl, tyX1_ok 2 (by decide), h1, h2⟩
theorem wX2_init_9 {v : Value} (h1 : narrow (tyX2 0) v = v) (h2 : fits (tyX2 0) v = true) : zw_W wsX2_init RX2 9 2 0 true v := ⟨RX2, TX2, 3, (tyX2 0), rfl, by decide, by decide +kernel, by decide +kernel, rfl, rfl, tyX2_ok 0 (by decide), h1, h2⟩
theorem wX2_init_15 {v : Value} (h1 : narrow (tyX2 1) v = v) (h2 : fits (tyX2 1) v = true) : zw_W wsX2_init RX2 15 2 1 true v := ⟨RX2, TX2, 3, (tyX2 1), rfl, by decide, by decide +kernel, by decide +kernel, rfl, rfl, tyX2_ok 1 (by decide), h1, h2⟩
theorem wX2_init_18 {v : Value} (h1 : narrow (tyX2 2) v = v) (h2 : fits (tyX2 2) v = true) : zw_W wsX2_init RX2 18 2 2 false v := ⟨RX2, TX2, 3, (tyX2 2), rfl, by decide, by decide +kernel, by decide +kernel, rfl, rfl, tyX2_ok 2 (by decide), h1, h2⟩
theorem fX2_count_18 : zw_F wsX2_count RX2 18 2 2 := ⟨RX2, TX2, 3, rfl, by decide, by decide +kernel, by decide +kernel, rfl⟩
theorem fX2_holdsPlace_18 : zw_F wsX2_holdsPlace RX2 18 2 2 := ⟨RX2, TX2, 3, rfl, by decide, by decide +kernel, by decide +kernel, rfl⟩
theorem fX2_holdsPlace_9 : zw_F wsX2_holdsPlace RX2 9 2 0 := ⟨RX2, TX2, 3, rfl, by decide, by decide +kernel, by decide +kernel, rfl⟩
theorem fX2_keyIn_9 : zw_F wsX2_keyIn RX2 9 2 0 := ⟨RX2, TX2, 3, rfl, by decide, by decide +kernel, by decide +kernel, rfl⟩
theorem fX2_valueIn_15 : zw_F wsX2_valueIn RX2 15 2 1 := ⟨RX2, TX2, 3, rfl, by decide, by decide +kernel, by decide +kernel, rfl⟩
theorem fX2_find_18 : zw_F wsX2_find RX2 18 2 2 := ⟨RX2, TX2, 3, rfl, by decide, by decide +kernel, by decide +kernel, rfl⟩
theorem fX2_give_15 : zw_F wsX2_give RX2 15 2 1 := ⟨RX2, TX2, 3, rfl, by decide, by decide +kernel, by decide +kernel, rfl⟩
theorem fX2_append_18 : zw_F wsX2_append RX2 18 2 2 := ⟨RX2, TX2, 3, rfl, by decide, by decide +kernel, by decide +kernel, rfl⟩
theorem fX2_append_9 : zw_F wsX2_append RX2 9 2 0 := ⟨RX2, TX2, 3, rfl, by decide, by decide +kernel, by decide +kernel, rfl⟩
theorem fX2_append_15 : zw_F wsX2_append RX2 15 2 1 := ⟨RX2, TX2, 3, rfl, by decide, by decide +kernel, by decide +kernel, rfl⟩
theorem wX2_append_18 {v : Value} (h1 : narrow (tyX2 2) v = v) (h2 : fits (tyX2 2) v = true) : zw_W wsX2_append RX2 18 2 2 false v := ⟨RX2, TX2, 3, (tyX2 2), rfl, by decide, by decide +kernel, by decide +kernel, rfl, rfl, tyX2_ok 2 (by decide), h1, h2⟩
theorem fX2_close_18 : zw_F wsX2_close RX2 18 2 2 := ⟨RX2, TX2, 3, rfl, by decide, by decide +kernel, by decide +kernel, rfl⟩
theorem fX2_close_9 : zw_F wsX2_close RX2 9 2 0 := ⟨RX2, TX2, 3, rfl, by decide, by decide +kernel, by decide +kernel, rfl⟩
theorem fX2_close_15 : zw_F wsX2_close RX2 15 2 1 := ⟨RX2, TX2, 3, rfl, by decide, by decide +kernel, by decide +kernel, rfl⟩
theorem wX2_close_18 {v : Value} (h1 : narrow (tyX2 2) v = v) (h2 : fits (tyX2 2) v = true) : zw_W wsX2_close RX2 18 2 2 false v := ⟨RX2, TX2, 3, (tyX2 2), rfl, by decide, by decide +kernel, by decide +kernel, rfl, rfl, tyX2_ok 2 (by decide), h1, h2⟩
theorem fX2_putLast_9 : zw_F wsX2_putLast RX2 9 2 0 := ⟨RX2, TX2, 3, rfl, by decide, by decide +kernel, by decide +kernel, rfl⟩
theorem fX2_putLast_15 : zw_F wsX2_putLast RX2 15 2 1 := ⟨RX2, TX2, 3, rfl, by decide, by decide +kernel, by decide +kernel, rfl⟩
theorem wX2_become_18 {v : Value} (h1 : narrow (tyX2 2) v = v) (h2 : fits (tyX2 2) v = true) : zw_W wsX2_become RX2 18 2 2 false v := ⟨RX2, TX2, 3, (tyX2 2), rfl, by decide, by decide +kernel, by decide +kernel, rfl, rfl, tyX2_ok 2 (by decide), h1, h2⟩
theorem fX2_become_18 : zw_F wsX2_become RX2 18 2 2 := ⟨RX2, TX2, 3, rfl, by decide, by decide +kernel, by decide +kernel, rfl⟩
theorem fX2_tellsAlike_18 : zw_F wsX2_tellsAlike RX2 18 2 2 := ⟨RX2, TX2, 3, rfl, by decide, by decide +kernel, by decide +kernel, rfl⟩
theorem fX2_hasEntriesOf_18 : zw_F wsX2_hasEntriesOf RX2 18 2 2 := ⟨RX2, TX2, 3, rfl, by decide, by decide +kernel, by decide +kernel, rfl⟩
theorem fX2_sameAs_18 : zw_F wsX2_sameAs RX2 18 2 2 := ⟨RX2, TX2, 3, rfl, by decide, by decide +kernel, by decide +kernel, rfl⟩
theorem wX3_init_9 {v : Value} (h1 : narrow (tyX3 0) v = v) (h2 : fits (tyX3 0) v = true) : zw_W wsX3_init RX3 9 3 0 false v := ⟨RX3, TX3, 4, (tyX3 0), rfl, by decide, by decide +kernel, by decide +kernel, rfl, rfl, tyX3_ok 0 (by decide), h1, h2⟩
theorem wX3_init_15 {v : Value} (h1 : narrow (tyX3 1) v = v) (h2 : fits (tyX3 1) v = true) : zw_W wsX3_init RX3 15 3 1 false v := ⟨RX3, TX3, 4, (tyX3 1), rfl, by decide, by decide +kernel, by decide +kernel, rfl, rfl, tyX3_ok 1 (by decide), h1, h2⟩
theorem wX3_init_19 {v : Value} (h1 : narrow (tyX3 2) v = v) (h2 : fits (tyX3 2) v = true) : zw_W wsX3_init RX3 19 3 2 false v := ⟨RX3, TX3, 4, (tyX3 2), rfl, by decide, by decide +kernel, by decide +kernel, rfl, rfl, tyX3_ok 2 (by decide), h1, h2⟩
theorem wX3_init_23 {v : Value} (h1 : narrow (tyX3 3) v = v) (h2 : fits (tyX3 3) v = true) : zw_W wsX3_init RX3 23 3 3 false v := ⟨RX3, TX3, 4, (tyX3 3), rfl, by decide, by decide +kernel, by decide +kernel, rfl, rfl, tyX3_ok 3 (by decide), h1, h2⟩
theorem wX3_begin_9 {v : Value} (h1 : narrow (tyX3 0) v = v) (h2 : fits (tyX3 0) v = true) : zw_W wsX3_begin RX3 9 3 0 false v := ⟨RX3, TX3, 4, (tyX3 0), rfl, by decide, by decide +kernel, by decide +kernel, rfl, rfl, tyX3_ok 0 (by decide), h1, h2⟩
theorem wX3_begin_15 {v : Value} (h1 : narrow (tyX3 1) v = v) (h2 : fits (tyX3 1) v = true) : zw_W wsX3_begin RX3 15 3 1 false v := ⟨RX3, TX3, 4, (tyX3 1), rfl, by decide, by decide +kernel, by decide +kernel, rfl, rfl, tyX3_ok 1 (by decide), h1, h2⟩
theorem wX3_begin_19 {v : Value} (h1 : narrow (tyX3 2) v = v) (h2 : fits (tyX3 2) v = true) : zw_W wsX3_begin RX3 19 3 2 false v := ⟨RX3, TX3, 4, (tyX3 2), rfl, by decide, by decide +kernel, by decide +kernel, rfl, rfl, tyX3_ok 2 (by decide), h1, h2⟩
theorem wX3_begin_23 {v : Value} (h1 : narrow (tyX3 3) v = v) (h2 : fits (tyX3 3) v = true) : zw_W wsX3_begin RX3 23 3 3 false v := ⟨RX3, TX3, 4, (tyX3 3), rfl, by decide, by decide +kernel, by decide +kernel, rfl, rfl, tyX3_ok 3 (by decide), h1, h2⟩
theorem wX3_end_9 {v : Value} (h1 : narrow (tyX3 0) v = v) (h2 : fits (tyX3 0) v = true) : zw_W wsX3_end RX3 9 3 0 false v := ⟨RX3, TX3, 4, (tyX3 0), rfl, by decide, by decide +kernel, by decide +kernel, rfl, rfl, tyX3_ok 0 (by decide), h1, h2⟩
theorem fX3_isOn_9 : zw_F wsX3_isOn RX3 9 3 0 := ⟨RX3, TX3, 4, rfl, by decide, by decide +kernel, by decide +kernel, rfl⟩
theorem fX3_order_15 : zw_F wsX3_order RX3 15 3 1 := ⟨RX3, TX3, 4, rfl, by decide, by decide +kernel, by decide +kernel, rfl⟩
theorem fX3_nextPlace_19 : zw_F wsX3_nextPlace RX3 19 3 2 := ⟨RX3, TX3, 4, rfl, by decide, by decide +kernel, by decide +kernel, rfl⟩
theorem fX3_mayCut_23 : zw_F wsX3_mayCut RX3 23 3 3 := ⟨RX3, TX3, 4, rfl, by decide, by decide +kernel, by decide +kernel, rfl⟩
theorem fX3_goOver_19 : zw_F wsX3_goOver RX3 19 3 2 := ⟨RX3, TX3, 4, rfl, by decide, by decide +kernel, by decide +kernel, rfl⟩
theorem wX3_goOver_19 {v : Value} (h1 : narrow (tyX3 2) v = v) (h2 : fits (tyX3 2) v = true) : zw_W wsX3_goOver RX3 19 3 2 false v := ⟨RX3, TX3, 4, (tyX3 2), rfl, by decide, by decide +kernel, by decide +kernel, rfl, rfl, tyX3_ok 2 (by decide), h1, h2⟩
theorem wX3_goOver_23 {v : Value} (h1 : narrow (tyX3 3) v = v) (h2 : fits (tyX3 3) v = true) : zw_W wsX3_goOver RX3 23 3 3 false v := ⟨RX3, TX3, 4, (tyX3 3), rfl, by decide, by decide +kernel, by decide +kernel, rfl, rfl, tyX3_ok 3 (by decide), h1, h2⟩
theorem fX3_goBack_19 : zw_F wsX3_goBack RX3 19 3 2 := ⟨RX3, TX3, 4, rfl, by decide, by decide +kernel, by decide +kernel, rfl⟩
theorem wX3_goBack_19 {v : Value} (h1 : narrow (tyX3 2) v = v) (h2 : fits (tyX3 2) v = true) : zw_W wsX3_goBack RX3 19 3 2 false v := ⟨RX3, TX3, 4, (tyX3 2), rfl, by decide, by decide +kernel, by decide +kernel, rfl, rfl, tyX3_ok 2 (by decide), h1, h2⟩
theorem wX3_goBack_23 {v : Value} (h1 : narrow (tyX3 3) v = v) (h2 : fits (tyX3 3) v = true) : zw_W wsX3_goBack RX3 23 3 3 false v := ⟨RX3, TX3, 4, (tyX3 3), rfl, by decide, by decide +kernel, by decide +kernel, rfl, rfl, tyX3_ok 3 (by decide), h1, h2⟩
theorem w9_X0 : ∀ C, (∃ T N, vwCl[0]? = some (C, T, N)) → C = RX0 := by rintro C ⟨T, N, h⟩; cases h; rfl
theorem w9_X1 : ∀ C, (∃ T N, vwCl[1]? = some (C, T, N)) → C = RX1 := by rintro C ⟨T, N, h⟩; cases h; rfl
theorem w9_X2 : ∀ C, (∃ T N, vwCl[2]? = some (C, T, N)) → C = RX2 := by rintro C ⟨T, N, h⟩; cases h; rfl
theorem w9_X3 : ∀ C, (∃ T N, vwCl[3]? = some (C, T, N)) → C = RX3 := by rintro C ⟨T, N, h⟩; cases h; rfl
theorem w9_X4 : ∀ C, (∃ T N, vwCl[4]? = some (C, T, N)) → C = RX4 := by rintro C ⟨T, N, h⟩; cases h; rfl
theorem w9_X5 : ∀ C, (∃ T N, vwCl[5]? = some (C, T, N)) → C = RX5 := by rintro C ⟨T, N, h⟩; cases h; rfl
end
section
/-! rows of entries as lists, and how an array holds one -/
abbrev zr_D : Type := Nat × (Nat → Int32) × (Nat → Int32)
abbrev zr_L : Type := List (Int32 × Int32)
def zr_W (i : Nat) (d : zr_D) : List zw_E := [.inr (2, [.ref (i + 1), .ref (i + 2), .int (nI d.1)]), .inl (0, 12, .inl d.2.1), .inl (0, 12, .inl d.2.2)]
def zr_R (L : zr_L) (d : zr_D) : Prop := d.1 = L.length ∧ L.length ≤ 12 ∧ ∀ (i : Nat) (q : Int32 × Int32), L[i]? = some q → d.2.1 i = q.1 ∧ d.2.2 i = q.2
def zz (n : Nat) : Nat := n
def zf_b (b : Bool) : Int32 := if b then 1 else 0
/-- a place told by an int -/
def zf_ix (p : Int32) (n : Nat) : Option Nat := if 0 ≤ p.toInt ∧ p.toInt < n then some p.toInt.toNat else none
theorem zf_ix_neg {p : Int32} (n : Nat) (h : p < 0) : zf_ix p n = none := by
  have h1 := Int32.lt_iff_toInt_lt.mp h
  rw [Int32.toInt_zero] at h1
  unfold zf_ix
  rw [if_neg]
  omega
theorem zf_ix_big {p : Int32} {n : Nat} (hn : n < 2 ^ 31) (h : nI n ≤ p) : zf_ix p n = none := by
  have h1 := Int32.le_iff_toInt_le.mp h
  rw [nI_toInt hn] at h1
  unfold zf_ix
  rw [if_neg]
  omega
theorem zf_ix_nI {j n : Nat} (hj : j < 2 ^ 31) : zf_ix (nI j) n = if j < n then some j else none := by
  unfold zf_ix
  rw [nI_toInt hj]
  by_cases h : j < n
  · rw [if_pos ⟨by omega, by omega⟩, if_pos h]; rfl
  · rw [if_neg (by omega), if_neg h]
theorem zf_ix_cases (p : Int32) {n : Nat} (hn : n < 2 ^ 31) : (p < 0 ∧ zf_ix p n = none) ∨ (¬ p < 0 ∧ nI n ≤ p ∧ zf_ix p n = none) ∨ ∃ j : Nat, j < n ∧ p = nI j ∧ zf_ix p n = some j := by
  by_cases h0 : p < 0
  · exact Or.inl ⟨h0, zf_ix_neg n h0⟩
  · rcases pk_ix p hn with h | h | ⟨j, hj, rfl⟩
    · exact absurd h h0
    · exact Or.inr (Or.inl ⟨h0, h, zf_ix_big hn h⟩)
    · exact Or.inr (Or.inr ⟨j, hj, rfl, by rw [zf_ix_nI (by omega), if_pos hj]⟩)
theorem zf_ix_m1 (n : Nat) : zf_ix (-1) n = none := zf_ix_neg n (by decide)
/-- a place, or -1 -/
def zf_i (i n : Nat) : Int32 := if i < n then nI i else -1
theorem zf_ix_i {i n : Nat} (hn : n < 2 ^ 31) : zf_ix (zf_i i n) n = if i < n then some i else none := by
  unfold zf_i
  by_cases h : i < n
  · rw [if_pos h, zf_ix_nI (by omega)]
  · rw [if_neg h, if_neg h, zf_ix_m1]
theorem zf_i_m1 {i n : Nat} (hn : n < 2 ^ 31) : zf_i i n = -1 ↔ ¬ i < n := by
  unfold zf_i
  by_cases h : i < n
  · rw [if_pos h]
    constructor
    · intro q
      have := nI_pos (n := i) (by omega)
      rw [q] at this
      exact absurd (by decide) this
    · intro q; exact absurd h q
  · rw [if_neg h]; exact ⟨fun _ => h, fun _ => rfl⟩
/-- what stands at a place -/
def zl_key (L : zr_L) (o : Option Nat) : Int32 := match o.bind (fun j => L[j]?) with
  | some q => q.1
  | none => -1
def zl_val (L : zr_L) (o : Option Nat) : Int32 := match o.bind (fun j => L[j]?) with
  | some q => q.2
  | none => 0
/-- where a key stands first; the length if nowhere -/
def zl_find (L : zr_L) (key : Int32) : Nat := L.findIdx (fun q => q.1 == key)
def zl_fi (L : zr_L) (key : Int32) : Int32 := zf_i (zl_find L key) L.length
def zl_give (L : zr_L) (o : Option Nat) (v : Int32) : zr_L := match o.bind (fun j => (L[j]?).map (fun q => (j, q))) with
  | some (j, q) => L.set j (q.1, v)
  | none => L
def zl_close (L : zr_L) (o : Option Nat) : zr_L := match o with
  | some j => L.eraseIdx j
  | none => L
def zl_last (L : zr_L) (o : Option Nat) : zr_L := match o.bind (fun j => (L[j]?).map (fun q => (j, q))) with
  | some (j, q) => L.eraseIdx j ++ [q]
  | none => L
theorem zr_R.at {L : zr_L} {d : zr_D} (h : zr_R L d) {i : Nat} (hi : i < d.1) : ∃ q, L[i]? = some q ∧ d.2.1 i = q.1 ∧ d.2.2 i = q.2 := by
  have hl : i < L.length := by rw [← h.1]; exact hi
  exact ⟨L[i], List.getElem?_eq_getElem hl, h.2.2 i _ (List.getElem?_eq_getElem hl)⟩
theorem zl_find_at {L : zr_L} {key : Int32} {j : Nat} {q : Int32 × Int32} (hj : L[j]? = some q) (hq : q.1 = key) (h : ∀ (i : Nat) (r : Int32 × Int32), i < j → L[i]? = some r → ¬ r.1 = key) : zl_find L key = j := by
  unfold zl_find
  have hjl : j < L.length := (List.getElem?_eq_some_iff.mp hj).1
  have hq' : L[j] = q := (List.getElem?_eq_some_iff.mp hj).2
  rw [List.findIdx_eq hjl]
  refine ⟨by rw [hq']; simpa using hq, fun i hi => ?_⟩
  have := h i L[i] hi (List.getElem?_eq_getElem (by omega))
  simpa using this
theorem zl_find_none {L : zr_L} {key : Int32} (h : ∀ (i : Nat) (r : Int32 × Int32), L[i]? = some r → ¬ r.1 = key) : zl_find L key = L.length := by
  unfold zl_find
  rw [List.findIdx_eq_length]
  intro q hq
  obtain ⟨i, hi⟩ := List.getElem?_of_mem hq
  simpa using h i q hi
theorem zl_find_le (L : zr_L) (key : Int32) : zl_find L key ≤ L.length := List.findIdx_le_length
theorem zl_find_lt {L : zr_L} {key : Int32} (h : zl_find L key < L.length) : ∃ q, L[zl_find L key]? = some q ∧ q.1 = key := by
  refine ⟨L[zl_find L key], List.getElem?_eq_getElem h, ?_⟩
  have := List.findIdx_getElem (xs := L) (p := fun (q : Int32 × Int32) => q.1 == key) (w := h)
  exact eq_of_beq this
theorem zl_find_mem {L : zr_L} {key : Int32} : zl_find L key < L.length ↔ key ∈ L.map (·.1) := by
  constructor
  · intro h
    obtain ⟨q, h1, h2⟩ := zl_find_lt h
    exact List.mem_map.mpr ⟨q, List.mem_of_getElem? h1, h2⟩
  · intro h
    obtain ⟨q, h1, h2⟩ := List.mem_map.mp h
    exact List.findIdx_lt_length_of_exists ⟨q, h1, by simpa using h2⟩
/-- the array f, but from p to q each place holds the next one's -/
def zf_sh (f : Nat → Int32) (p q : Nat) : Nat → Int32 := fun i => if p ≤ i ∧ i < q then f (i + 1) else f i
theorem zf_sh_0 (f : Nat → Int32) (p : Nat) : zf_sh f p p = f := by
  funext i
  unfold zf_sh
  rw [if_neg (by omega)]
theorem zf_sh_s (f : Nat → Int32) {p q : Nat} (h : p ≤ q) : upd (zf_sh f p q) q (zf_sh f p q (q + 1)) = zf_sh f p (q + 1) := by
  funext i
  unfold upd zf_sh
  by_cases e : i = q
  · subst e
    rw [if_pos rfl, if_neg (by omega), if_pos ⟨h, by omega⟩]
  · rw [if_neg e]
    by_cases h1 : p ≤ i ∧ i < q
    · rw [if_pos h1, if_pos ⟨h1.1, by omega⟩]
    · rw [if_neg h1, if_neg (by omega)]
theorem zr_R.close {L : zr_L} {d : zr_D} (h : zr_R L d) {p : Nat} (hp : p < d.1) : zr_R (L.eraseIdx p) (d.1 - 1, zf_sh d.2.1 p (d.1 - 1), zf_sh d.2.2 p (d.1 - 1)) := by
  obtain ⟨h1, h2, h3⟩ := h
  have hl : (L.eraseIdx p).length = L.length - 1 := by rw [List.length_eraseIdx, if_pos (by omega)]
  refine ⟨by rw [hl, h1], by omega, fun i q hq => ?_⟩
  have hil : i < L.length - 1 := by rw [← hl]; exact (List.getElem?_eq_some_iff.mp hq).1
  rw [List.getElem?_eraseIdx] at hq
  show zf_sh d.2.1 p (d.1 - 1) i = _ ∧ zf_sh d.2.2 p (d.1 - 1) i = _
  unfold zf_sh
  by_cases hi : i < p
  · rw [if_pos hi] at hq
    rw [if_neg (by omega), if_neg (by omega)]
    exact h3 i q hq
  · rw [if_neg hi] at hq
    rw [if_pos (by omega), if_pos (by omega)]
    exact h3 (i + 1) q hq
theorem zr_R.append {L : zr_L} {d : zr_D} (h : zr_R L d) (hl : d.1 < 12) (k v : Int32) : zr_R (L ++ [(k, v)]) (d.1 + 1, upd d.2.1 d.1 k, upd d.2.2 d.1 v) := by
  obtain ⟨h1, h2, h3⟩ := h
  refine ⟨by simp [h1], by simp; omega, fun i q hq => ?_⟩
  show upd d.2.1 d.1 k i = _ ∧ upd d.2.2 d.1 v i = _
  unfold upd
  rw [List.getElem?_append] at hq
  by_cases hi : i < L.length
  · rw [if_pos hi] at hq
    rw [if_neg (by omega), if_neg (by omega)]
    exact h3 i q hq
  · rw [if_neg hi] at hq
    have hz : i - L.length < 1 := (List.getElem?_eq_some_iff.mp hq).1
    have : i = d.1 := by omega
    subst this
    rw [if_pos rfl, if_pos rfl]
    rw [show d.1 - L.length = 0 by omega] at hq
    cases hq
    exact ⟨rfl, rfl⟩
theorem zr_R.give {L : zr_L} {d : zr_D} (h : zr_R L d) {p : Nat} (hp : p < d.1) (v : Int32) : zr_R (zl_give L (some p) v) (d.1, d.2.1, upd d.2.2 p v) := by
  obtain ⟨h1, h2, h3⟩ := h
  have hpl : p < L.length := by omega
  have e : zl_give L (some p) v = L.set p ((L[p]).1, v) := by
    unfold zl_give
    rw [Option.bind_some, List.getElem?_eq_getElem hpl]
    rfl
  rw [e]
  refine ⟨by rw [List.length_set]; exact h1, by rw [List.length_set]; exact h2, fun i q hq => ?_⟩
  show d.2.1 i = _ ∧ upd d.2.2 p v i = _
  unfold upd
  rw [List.getElem?_set] at hq
  by_cases e : p = i
  · subst e
    rw [if_pos rfl, if_pos hpl] at hq
    cases hq
    rw [if_pos rfl]
    exact ⟨(h3 p _ (List.getElem?_eq_getElem hpl)).1, rfl⟩
  · rw [if_neg e] at hq
    rw [if_neg (fun q => e q.symm)]
    exact h3 i q hq
theorem zr_R.take {L : zr_L} {d : zr_D} (h : zr_R L d) : d.1 < 2 ^ 31 := by
  have := h.1
  have := h.2.1
  omega
end
section
/-! the class Row -/
set_option maxHeartbeats 4000000 in
theorem zr_count {l : Launch} (hl : l.stackTraces = false) (D : va_G) (dA : Nat → ClassId) (d : zr_D) : zw_Sp l D dA yX2_count wsX2_count 0 0 0 [.ref 0] (zr_W 0 d) (fun v w => v = some (.int (nI d.1)) ∧ w = zr_W 0 d) (fun _ _ => False) := by
  refine zw_start hl (by decide) rfl rfl (Nat.le_of_ble_eq_true rfl) ?_
  intro pr e s m args below meth c ad A hA B
  refine zs_aload_n B dX2_count_0 (i := 0) rfl rfl ?_
  refine zs_get B fX2_count_18 rfl rfl dX2_count_1 ?_
  exact zs_zret hA B rfl rfl (by decide) (by decide) ⟨rfl, rfl⟩ dX2_count_4
set_option maxHeartbeats 4000000 in
theorem zr_holdsPlace {l : Launch} (hl : l.stackTraces = false) (D : va_G) (dA : Nat → ClassId) (d : zr_D) (hd : d.1 ≤ 12) (q : Int32) : zw_Sp l D dA yX2_holdsPlace wsX2_holdsPlace 0 0 0 [.ref 0, .int q] (zr_W 0 d) (fun v w => v = some (.int (zf_b (zf_ix q d.1).isSome)) ∧ w = zr_W 0 d) (fun _ _ => False) := by
  refine zw_start hl (by decide) rfl rfl (Nat.le_of_ble_eq_true rfl) ?_
  intro pr e s m args below meth c ad A hA B
  refine zs_iload_n B dX2_holdsPlace_0 (i := 1) rfl rfl ?_
  refine zs_if_lt (tgt := 25) B dX2_holdsPlace_1 (by decide) (fun h1 => ?_) (fun h1 => ?_)
  · refine zs_iconst (v := 0) B dX2_holdsPlace_25 (by decide) ?_
    exact zs_zret hA B rfl rfl (by decide) (by decide) ⟨by rw [zf_ix_neg _ h1]; rfl, rfl⟩ dX2_holdsPlace_26
  · refine zs_iload_n B dX2_holdsPlace_4 (i := 1) rfl rfl ?_
    refine zs_aload_n B dX2_holdsPlace_5 (i := 0) rfl rfl ?_
    refine zs_get B fX2_holdsPlace_18 rfl rfl dX2_holdsPlace_6 ?_
    refine zs_icmp_ge (tgt := 25) B dX2_holdsPlace_9 (by decide) (fun h2 => ?_) (fun h2 => ?_)
    · refine zs_iconst (v := 0) B dX2_holdsPlace_25 (by decide) ?_
      exact zs_zret hA B rfl rfl (by decide) (by decide) ⟨by rw [zf_ix_big (by omega) h2]; rfl, rfl⟩ dX2_holdsPlace_26
    · rcases zf_ix_cases q (n := d.1) (by omega) with ⟨h, -⟩ | ⟨-, h, -⟩ | ⟨j, hj, rfl, hix⟩
      · exact absurd h h1
      · exact absurd h h2
      · refine zs_iload_n B dX2_holdsPlace_12 (i := 1) rfl rfl ?_
        refine zs_aload_n B dX2_holdsPlace_13 (i := 0) rfl rfl ?_
        refine zs_get B fX2_holdsPlace_9 rfl rfl dX2_holdsPlace_14 ?_
        refine zs_alen (v := 12) B rfl (by decide) (by decide) dX2_holdsPlace_17 ?_
        refine zs_icmp_ge (tgt := 25) B dX2_holdsPlace_18 (by decide) (fun h3 => ?_) (fun h3 => ?_)
        · exact absurd ((nI_leI (by decide) (by omega)).mp (show nI 12 ≤ nI j from h3)) (by omega)
        · refine zs_iconst (v := 1) B dX2_holdsPlace_21 (by decide) ?_
          refine zs_goto (tgt := 26) B dX2_holdsPlace_22 (by decide) ?_
          exact zs_zret hA B rfl rfl (by decide) (by decide) ⟨by rw [hix]; rfl, rfl⟩ dX2_holdsPlace_26
theorem zf_b_ne {b : Bool} (h : ¬ zf_b b = 0) : b = true := by cases b <;> simp_all [zf_b]
theorem zf_b_eq {b : Bool} (h : zf_b b = 0) : b = false := by cases b <;> simp_all [zf_b]
set_option maxHeartbeats 4000000 in
theorem zr_keyIn {l : Launch} (hl : l.stackTraces = false) (D : va_G) (dA : Nat → ClassId) (d : zr_D) (L : zr_L) (hR : zr_R L d) (q : Int32) : zw_Sp l D dA yX2_keyIn wsX2_keyIn 1 0 0 [.ref 0, .int q] (zr_W 0 d) (fun v w => v = some (.int (zl_key L (zf_ix q L.length))) ∧ w = zr_W 0 d) (fun _ _ => False) := by
  refine zw_start hl (by decide) rfl rfl (Nat.le_of_ble_eq_true rfl) ?_
  intro pr e s m args below meth c ad A hA B
  have h12 : d.1 ≤ 12 := by rw [hR.1]; exact hR.2.1
  refine zs_aload_n B dX2_keyIn_0 (i := 0) rfl rfl ?_
  refine zs_iload_n B dX2_keyIn_1 (i := 1) rfl rfl ?_
  refine zs_callV (n := 1) [0, 1, 2] B (zr_holdsPlace hl D dA d h12 q) gX2_keyIn_X2_holdsPlace rfl ⟨rfl, by decide, by decide, by decide +kernel⟩ rfl (by rfl) rfl rfl rfl (by rfl) ⟨(by exact Nat.le_of_ble_eq_true rfl), (by exact Nat.le_of_ble_eq_true rfl)⟩ (by exact Nat.le_of_ble_eq_true rfl) ⟨(by exact Nat.le_of_ble_eq_true rfl), (by exact Nat.le_of_ble_eq_true rfl)⟩ dX2_keyIn_2 (by rintro v w ⟨rfl, rfl⟩; rfl) (fun _ _ h => h.elim) (fun _ _ h => h.elim) ?_
  rintro v w ⟨rfl, rfl⟩
  refine zs_eq (wl' := zr_W 0 d) (st' := [.int (zf_b (zf_ix q d.1).isSome)]) rfl rfl rfl rfl ?_
  rw [hR.1]
  refine zs_if_eq (tgt := 17) B dX2_keyIn_5 (by decide) (fun h1 => ?_) (fun h1 => ?_)
  · refine zs_iconst (v := (-1)) B dX2_keyIn_17 (by decide) ?_
    have h2 : zf_ix q L.length = none := Option.not_isSome_iff_eq_none.mp (by rw [zf_b_eq h1]; decide)
    exact zs_zret hA B rfl rfl (by decide) (by decide) ⟨by rw [h2]; rfl, rfl⟩ dX2_keyIn_18
  · obtain ⟨j, hj⟩ := Option.isSome_iff_exists.mp (zf_b_ne h1)
    rcases zf_ix_cases q (n := L.length) (by have := hR.2.1; omega) with ⟨-, h⟩ | ⟨-, -, h⟩ | ⟨j', hj', hqj, hix⟩
    · rw [h] at hj; cases hj
    · rw [h] at hj; cases hj
    · obtain ⟨r, hr, hr1, hr2⟩ := hR.at (i := j') (by rw [hR.1]; exact hj')
      refine zs_aload_n B dX2_keyIn_8 (i := 0) rfl rfl ?_
      refine zs_get B fX2_keyIn_9 rfl rfl dX2_keyIn_9 ?_
      refine zs_iload_n B dX2_keyIn_12 (i := 1) rfl rfl ?_
      refine zs_ial B j' rfl (by have := hR.2.1; omega) (by decide) hqj dX2_keyIn_13 ?_
      refine zs_goto (tgt := 18) B dX2_keyIn_14 (by decide) ?_
      refine zs_zret hA B rfl rfl (by decide) (by decide) ⟨?_, rfl⟩ dX2_keyIn_18
      rw [hix]
      unfold zl_key
      rw [Option.bind_some, hr]
      exact congrArg (fun x => some (Value.int x)) hr1
set_option maxHeartbeats 4000000 in
theorem zr_valueIn {l : Launch} (hl : l.stackTraces = false) (D : va_G) (dA : Nat → ClassId) (d : zr_D) (L : zr_L) (hR : zr_R L d) (q : Int32) : zw_Sp l D dA yX2_valueIn wsX2_valueIn 1 0 0 [.ref 0, .int q] (zr_W 0 d) (fun v w => v = some (.int (zl_val L (zf_ix q L.length))) ∧ w = zr_W 0 d) (fun _ _ => False) := by
  refine zw_start hl (by decide) rfl rfl (Nat.le_of_ble_eq_true rfl) ?_
  intro pr e s m args below meth c ad A hA B
  have h12 : d.1 ≤ 12 := by rw [hR.1]; exact hR.2.1
  refine zs_aload_n B dX2_valueIn_0 (i := 0) rfl rfl ?_
  refine zs_iload_n B dX2_valueIn_1 (i := 1) rfl rfl ?_
  refine zs_callV (n := 1) [0, 1, 2] B (zr_holdsPlace hl D dA d h12 q) gX2_valueIn_X2_holdsPlace rfl ⟨rfl, by decide, by decide, by decide +kernel⟩ rfl (by rfl) rfl rfl rfl (by rfl) ⟨(by exact Nat.le_of_ble_eq_true rfl), (by exact Nat.le_of_ble_eq_true rfl)⟩ (by exact Nat.le_of_ble_eq_true rfl) ⟨(by exact Nat.le_of_ble_eq_true rfl), (by exact Nat.le_of_ble_eq_true rfl)⟩ dX2_valueIn_2 (by rintro v w ⟨rfl, rfl⟩; rfl) (fun _ _ h => h.elim) (fun _ _ h => h.elim) ?_
  rintro v w ⟨rfl, rfl⟩
  refine zs_eq (wl' := zr_W 0 d) (st' := [.int (zf_b (zf_ix q d.1).isSome)]) rfl rfl rfl rfl ?_
  rw [hR.1]
  refine zs_if_eq (tgt := 17) B dX2_valueIn_5 (by decide) (fun h1 => ?_) (fun h1 => ?_)
  · refine zs_iconst (v := 0) B dX2_valueIn_17 (by decide) ?_
    have h2 : zf_ix q L.length = none := Option.not_isSome_iff_eq_none.mp (by rw [zf_b_eq h1]; decide)
    exact zs_zret hA B rfl rfl (by decide) (by decide) ⟨by rw [h2]; rfl, rfl⟩ dX2_valueIn_18
  · obtain ⟨j, hj⟩ := Option.isSome_iff_exists.mp (zf_b_ne h1)
    rcases zf_ix_cases q (n := L.length) (by have := hR.2.1; omega) with ⟨-, h⟩ | ⟨-, -, h⟩ | ⟨j', hj', hqj, hix⟩
    · rw [h] at hj; cases hj
    · rw [h] at hj; cases hj
    · obtain ⟨r, hr, hr1, hr2⟩ := hR.at (i := j') (by rw [hR.1]; exact hj')
      refine zs_aload_n B dX2_valueIn_8 (i := 0) rfl rfl ?_
      refine zs_get B fX2_valueIn_15 rfl rfl dX2_valueIn_9 ?_
      refine zs_iload_n B dX2_valueIn_12 (i := 1) rfl rfl ?_
      refine zs_ial B j' rfl (by have := hR.2.1; omega) (by decide) hqj dX2_valueIn_13 ?_
      refine zs_goto (tgt := 18) B dX2_valueIn_14 (by decide) ?_
      refine zs_zret hA B rfl rfl (by decide) (by decide) ⟨?_, rfl⟩ dX2_valueIn_18
      rw [hix]
      unfold zl_val
      rw [Option.bind_some, hr]
      exact congrArg (fun x => some (Value.int x)) hr2
set_option maxHeartbeats 4000000 in
theorem zr_find {l : Launch} (hl : l.stackTraces = false) (D : va_G) (dA : Nat → ClassId) (d : zr_D) (L : zr_L) (hR : zr_R L d) (key : Int32) : zw_Sp l D dA yX2_find wsX2_find 2 0 0 [.ref 0, .int key] (zr_W 0 d) (fun v w => v = some (.int (zl_fi L key)) ∧ w = zr_W 0 d) (fun _ _ => False) := by
  refine zw_start hl (by decide) rfl rfl (Nat.le_of_ble_eq_true rfl) ?_
  intro pr e s m args below meth c ad A hA B
  have h12 := hR.2.1
  refine zs_iconst (v := 0) B dX2_find_0 (by decide) ?_
  refine zs_istore_n B dX2_find_1 (i := 2) rfl (by decide) rfl ?_
  refine zs_eq (lv' := [some (.ref 0), some (.int key), some (.int (nI (zz 0)))]) rfl rfl rfl rfl ?_
  obtain ⟨k, hk⟩ : ∃ k, k + zz 0 = L.length := ⟨L.length, rfl⟩
  have hinv : ∀ (i : Nat) (r : Int32 × Int32), i < zz 0 → L[i]? = some r → ¬ r.1 = key := fun i r h => absurd h (Nat.not_lt_zero i)
  generalize zz 0 = j at hk hinv ⊢
  induction k generalizing j with
  | zero =>
    refine zs_iload_n B dX2_find_2 (i := 2) rfl rfl ?_
    refine zs_aload_n B dX2_find_3 (i := 0) rfl rfl ?_
    refine zs_get B fX2_find_18 rfl rfl dX2_find_4 ?_
    refine zs_icmp_ge (tgt := 27) B dX2_find_7 (by decide) (fun h1 => ?_) (fun h1 => ?_)
    · refine zs_iconst (v := (-1)) B dX2_find_27 (by decide) ?_
      refine zs_zret hA B rfl rfl (by decide) (by decide) ⟨?_, rfl⟩ dX2_find_28
      have h2 : zl_find L key = L.length := zl_find_none (fun i r h => hinv i r (by have := (List.getElem?_eq_some_iff.mp h).1; omega) h)
      unfold zl_fi zf_i
      rw [h2, if_neg (Nat.lt_irrefl _)]
    · exact absurd (nI_le (by rw [hR.1]; omega) (by omega)) h1
  | succ k ih =>
    refine zs_iload_n B dX2_find_2 (i := 2) rfl rfl ?_
    refine zs_aload_n B dX2_find_3 (i := 0) rfl rfl ?_
    refine zs_get B fX2_find_18 rfl rfl dX2_find_4 ?_
    refine zs_icmp_ge (tgt := 27) B dX2_find_7 (by decide) (fun h1 => ?_) (fun h1 => ?_)
    · exact absurd ((nI_leI (by rw [hR.1]; omega) (by omega)).mp h1) (by rw [hR.1]; omega)
    · obtain ⟨r, hr, hr1, hr2⟩ := hR.at (i := j) (by rw [hR.1]; omega)
      refine zs_aload_n B dX2_find_10 (i := 0) rfl rfl ?_
      refine zs_iload_n B dX2_find_11 (i := 2) rfl rfl ?_
      refine zs_callV (n := 1) [0, 1, 2] B (zr_keyIn hl D dA d L hR (nI j)) gX2_find_X2_keyIn rfl ⟨rfl, by decide, by decide, by decide +kernel⟩ rfl (by rfl) rfl rfl rfl (by rfl) ⟨(by exact Nat.le_of_ble_eq_true rfl), (by exact Nat.le_of_ble_eq_true rfl)⟩ (by exact Nat.le_of_ble_eq_true rfl) ⟨(by exact Nat.le_of_ble_eq_true rfl), (by exact Nat.le_of_ble_eq_true rfl)⟩ dX2_find_12 (by rintro v w ⟨rfl, rfl⟩; rfl) (fun _ _ h => h.elim) (fun _ _ h => h.elim) ?_
      rintro v w ⟨rfl, rfl⟩
      have e1 : zl_key L (zf_ix (nI j) L.length) = r.1 := by
        rw [zf_ix_nI (by omega), if_pos (by omega)]
        unfold zl_key
        rw [Option.bind_some, hr]
      rw [e1]
      refine zs_eq (wl' := zr_W 0 d) (st' := [.int r.1]) rfl rfl rfl rfl ?_
      refine zs_iload_n B dX2_find_15 (i := 1) rfl rfl ?_
      refine zs_icmp_ne (tgt := 21) B dX2_find_16 (by decide) (fun h2 => ?_) (fun h2 => ?_)
      · refine zs_iinc B dX2_find_21 (i := 2) rfl (nI_1 j) (by decide) rfl ?_
        refine zs_goto (tgt := 2) B dX2_find_24 (by decide) ?_
        refine ih (j + 1) (by omega) ?_
        intro i r' hi hr'
        by_cases e : i = j
        · subst e
          rw [hr] at hr'
          cases hr'
          exact h2
        · exact hinv i r' (by omega) hr'
      · refine zs_iload_n B dX2_find_19 (i := 2) rfl rfl ?_
        refine zs_zret hA B rfl rfl (by decide) (by decide) ⟨?_, rfl⟩ dX2_find_20
        unfold zl_fi zf_i
        rw [zl_find_at hr h2 hinv, if_pos (by omega)]
set_option maxHeartbeats 4000000 in
theorem zr_give {l : Launch} (hl : l.stackTraces = false) (D : va_G) (dA : Nat → ClassId) (d : zr_D) (L : zr_L) (hR : zr_R L d) (q x : Int32) : zw_Sp l D dA yX2_give wsX2_give 1 0 0 [.ref 0, .int q, .int x] (zr_W 0 d) (fun v w => v = none ∧ ∃ d', zr_R (zl_give L (zf_ix q L.length) x) d' ∧ w = zr_W 0 d') (fun _ _ => False) := by
  refine zw_start hl (by decide) rfl rfl (Nat.le_of_ble_eq_true rfl) ?_
  intro pr e s m args below meth c ad A hA B
  have h12 : d.1 ≤ 12 := by rw [hR.1]; exact hR.2.1
  refine zs_aload_n B dX2_give_0 (i := 0) rfl rfl ?_
  refine zs_iload_n B dX2_give_1 (i := 1) rfl rfl ?_
  refine zs_callV (n := 1) [0, 1, 2] B (zr_holdsPlace hl D dA d h12 q) gX2_give_X2_holdsPlace rfl ⟨rfl, by decide, by decide, by decide +kernel⟩ rfl (by rfl) rfl rfl rfl (by rfl) ⟨(by exact Nat.le_of_ble_eq_true rfl), (by exact Nat.le_of_ble_eq_true rfl)⟩ (by exact Nat.le_of_ble_eq_true rfl) ⟨(by exact Nat.le_of_ble_eq_true rfl), (by exact Nat.le_of_ble_eq_true rfl)⟩ dX2_give_2 (by rintro v w ⟨rfl, rfl⟩; rfl) (fun _ _ h => h.elim) (fun _ _ h => h.elim) ?_
  rintro v w ⟨rfl, rfl⟩
  refine zs_eq (wl' := zr_W 0 d) (st' := [.int (zf_b (zf_ix q d.1).isSome)]) rfl rfl rfl rfl ?_
  rw [hR.1]
  refine zs_if_eq (tgt := 15) B dX2_give_5 (by decide) (fun h1 => ?_) (fun h1 => ?_)
  · have h2 : zf_ix q L.length = none := Option.not_isSome_iff_eq_none.mp (by rw [zf_b_eq h1]; decide)
    exact zs_vret hA B rfl (by decide) (by decide) ⟨rfl, d, by rw [h2]; exact hR, rfl⟩ dX2_give_15
  · obtain ⟨j, hj⟩ := Option.isSome_iff_exists.mp (zf_b_ne h1)
    rcases zf_ix_cases q (n := L.length) (by have := hR.2.1; omega) with ⟨-, h⟩ | ⟨-, -, h⟩ | ⟨j', hj', hqj, hix⟩
    · rw [h] at hj; cases hj
    · rw [h] at hj; cases hj
    · refine zs_aload_n B dX2_give_8 (i := 0) rfl rfl ?_
      refine zs_get B fX2_give_15 rfl rfl dX2_give_9 ?_
      refine zs_iload_n B dX2_give_12 (i := 1) rfl rfl ?_
      refine zs_iload_n B dX2_give_13 (i := 2) rfl rfl ?_
      refine zs_ias B j' rfl (by have := hR.2.1; omega) (by decide) hqj dX2_give_14 ?_
      exact zs_vret hA B rfl (by decide) (by decide) ⟨rfl, (d.1, d.2.1, upd d.2.2 j' x), by rw [hix]; exact hR.give (by rw [hR.1]; exact hj') x, rfl⟩ dX2_give_15
set_option maxHeartbeats 4000000 in
theorem zr_append {l : Launch} (hl : l.stackTraces = false) (D : va_G) (dA : Nat → ClassId) (d : zr_D) (L : zr_L) (hR : zr_R L d) (h12 : L.length < 12) (k x : Int32) : zw_Sp l D dA yX2_append wsX2_append 0 0 0 [.ref 0, .int k, .int x] (zr_W 0 d) (fun v w => v = none ∧ ∃ d', zr_R (L ++ [(k, x)]) d' ∧ w = zr_W 0 d') (fun _ _ => False) := by
  refine zw_start hl (by decide) rfl rfl (Nat.le_of_ble_eq_true rfl) ?_
  intro pr e s m args below meth c ad A hA B
  have hd : d.1 < 12 := by rw [hR.1]; exact h12
  refine zs_aload_n B dX2_append_0 (i := 0) rfl rfl ?_
  refine zs_get B fX2_append_18 rfl rfl dX2_append_1 ?_
  refine zs_aload_n B dX2_append_4 (i := 0) rfl rfl ?_
  refine zs_get B fX2_append_9 rfl rfl dX2_append_5 ?_
  refine zs_alen (v := 12) B rfl (by decide) (by decide) dX2_append_8 ?_
  refine zs_icmp_ge (tgt := 42) B dX2_append_9 (by decide) (fun h3 => ?_) (fun h3 => ?_)
  · exact absurd ((nI_leI (by decide) (by omega)).mp (show nI 12 ≤ nI d.1 from h3)) (by omega)
  · refine zs_aload_n B dX2_append_12 (i := 0) rfl rfl ?_
    refine zs_get B fX2_append_9 rfl rfl dX2_append_13 ?_
    refine zs_aload_n B dX2_append_16 (i := 0) rfl rfl ?_
    refine zs_get B fX2_append_18 rfl rfl dX2_append_17 ?_
    refine zs_iload_n B dX2_append_20 (i := 1) rfl rfl ?_
    refine zs_ias B d.1 rfl hd (by decide) rfl dX2_append_21 ?_
    refine zs_aload_n B dX2_append_22 (i := 0) rfl rfl ?_
    refine zs_get B fX2_append_15 rfl rfl dX2_append_23 ?_
    refine zs_aload_n B dX2_append_26 (i := 0) rfl rfl ?_
    refine zs_get B fX2_append_18 rfl rfl dX2_append_27 ?_
    refine zs_iload_n B dX2_append_30 (i := 2) rfl rfl ?_
    refine zs_ias B d.1 rfl hd (by decide) rfl dX2_append_31 ?_
    refine zs_aload_n B dX2_append_32 (i := 0) rfl rfl ?_
    refine zs_dup B dX2_append_33 rfl ?_
    refine zs_get B fX2_append_18 rfl rfl dX2_append_34 ?_
    refine zs_iconst (v := 1) B dX2_append_37 (by decide) ?_
    refine zs_iadd B dX2_append_38 ?_
    refine zs_topi (fun y hy => ?_)
    rw [nI_1] at hy
    subst hy
    refine zs_put B (wX2_append_18 rfl rfl) rfl (Nat.le_of_ble_eq_true rfl) dX2_append_39 ?_
    exact zs_vret hA B rfl (by decide) (by decide) ⟨rfl, (d.1 + 1, upd d.2.1 d.1 k, upd d.2.2 d.1 x), hR.append hd k x, rfl⟩ dX2_append_42
set_option maxHeartbeats 4000000 in
theorem zr_close {l : Launch} (hl : l.stackTraces = false) (D : va_G) (dA : Nat → ClassId) (d : zr_D) (L : zr_L) (hR : zr_R L d) (q : Int32) : zw_Sp l D dA yX2_close wsX2_close 1 0 0 [.ref 0, .int q] (zr_W 0 d) (fun v w => v = none ∧ ∃ d', zr_R (zl_close L (zf_ix q L.length)) d' ∧ w = zr_W 0 d') (fun _ _ => False) := by
  refine zw_start hl (by decide) rfl rfl (Nat.le_of_ble_eq_true rfl) ?_
  intro pr e s m args below meth c ad A hA B
  have h12 : d.1 ≤ 12 := by rw [hR.1]; exact hR.2.1
  refine zs_aload_n B dX2_close_0 (i := 0) rfl rfl ?_
  refine zs_iload_n B dX2_close_1 (i := 1) rfl rfl ?_
  refine zs_callV (n := 1) [0, 1, 2] B (zr_holdsPlace hl D dA d h12 q) gX2_close_X2_holdsPlace rfl ⟨rfl, by decide, by decide, by decide +kernel⟩ rfl (by rfl) rfl rfl rfl (by rfl) ⟨(by exact Nat.le_of_ble_eq_true rfl), (by exact Nat.le_of_ble_eq_true rfl)⟩ (by exact Nat.le_of_ble_eq_true rfl) ⟨(by exact Nat.le_of_ble_eq_true rfl), (by exact Nat.le_of_ble_eq_true rfl)⟩ dX2_close_2 (by rintro v w ⟨rfl, rfl⟩; rfl) (fun _ _ h => h.elim) (fun _ _ h => h.elim) ?_
  rintro v w ⟨rfl, rfl⟩
  refine zs_eq (wl' := zr_W 0 d) (st' := [.int (zf_b (zf_ix q d.1).isSome)]) rfl rfl rfl rfl ?_
  rw [hR.1]
  refine zs_if_ne (tgt := 9) B dX2_close_5 (by decide) (fun h1 => ?_) (fun h1 => ?_)
  · obtain ⟨j, hj⟩ := Option.isSome_iff_exists.mp (zf_b_ne h1)
    rcases zf_ix_cases q (n := L.length) (by have := hR.2.1; omega) with ⟨-, h⟩ | ⟨-, -, h⟩ | ⟨p, hp, hqp, hix⟩
    · rw [h] at hj; cases hj
    · rw [h] at hj; cases hj
    · subst hqp
      rw [← hR.1] at hp
      rw [hix]
      refine zs_iload_n B dX2_close_9 (i := 1) rfl rfl ?_
      refine zs_iconst (v := 1) B dX2_close_10 (by decide) ?_
      refine zs_iadd B dX2_close_11 ?_
      refine zs_topi (fun y hy => ?_)
      rw [nI_1] at hy
      subst hy
      refine zs_istore_n B dX2_close_12 (i := 2) rfl (by decide) rfl ?_
      refine zs_eq (wl' := zr_W 0 (d.1, zf_sh d.2.1 p (p + zz 0), zf_sh d.2.2 p (p + zz 0))) (lv' := [some (.ref 0), some (.int (nI p)), some (.int (nI (p + zz 0 + 1)))]) (by show zr_W 0 d = zr_W 0 (d.1, zf_sh d.2.1 p p, zf_sh d.2.2 p p); rw [zf_sh_0, zf_sh_0]) rfl rfl rfl ?_
      obtain ⟨k, hk⟩ : ∃ k, k + (p + zz 0) + 1 = d.1 := ⟨d.1 - 1 - p, by show d.1 - 1 - p + (p + 0) + 1 = d.1; omega⟩
      generalize zz 0 = t at hk ⊢
      induction k generalizing t with
      | zero =>
        refine zs_iload_n B dX2_close_13 (i := 2) rfl rfl ?_
        refine zs_aload_n B dX2_close_14 (i := 0) rfl rfl ?_
        refine zs_get B fX2_close_18 rfl rfl dX2_close_15 ?_
        refine zs_icmp_ge (tgt := 64) B dX2_close_18 (by decide) (fun h2 => ?_) (fun h2 => ?_)
        · refine zs_aload_n B dX2_close_64 (i := 0) rfl rfl ?_
          refine zs_dup B dX2_close_65 rfl ?_
          refine zs_get B fX2_close_18 rfl rfl dX2_close_66 ?_
          refine zs_iconst (v := 1) B dX2_close_69 (by decide) ?_
          refine zs_isub B dX2_close_70 ?_
          refine zs_topi (fun y hy => ?_)
          have hy : y = nI (d.1 - 1) := by rw [hy, show d.1 = d.1 - 1 + 1 by omega]; exact nI_pred _
          subst hy
          refine zs_put B (wX2_close_18 rfl rfl) rfl (Nat.le_of_ble_eq_true rfl) dX2_close_71 ?_
          refine zs_vret hA B rfl (by decide) (by decide) ⟨rfl, (d.1 - 1, zf_sh d.2.1 p (d.1 - 1), zf_sh d.2.2 p (d.1 - 1)), hR.close hp, ?_⟩ dX2_close_74
          rw [show p + t = d.1 - 1 by omega]
          rfl
        · exact absurd (nI_le (show d.1 ≤ p + t + 1 by omega) (by omega)) h2
      | succ k ih =>
        refine zs_iload_n B dX2_close_13 (i := 2) rfl rfl ?_
        refine zs_aload_n B dX2_close_14 (i := 0) rfl rfl ?_
        refine zs_get B fX2_close_18 rfl rfl dX2_close_15 ?_
        refine zs_icmp_ge (tgt := 64) B dX2_close_18 (by decide) (fun h2 => ?_) (fun h2 => ?_)
        · exact absurd ((nI_leI (by omega) (by omega)).mp (show nI d.1 ≤ nI (p + t + 1) from h2)) (by omega)
        · refine zs_iload_n B dX2_close_21 (i := 2) rfl rfl ?_
          refine zs_aload_n B dX2_close_22 (i := 0) rfl rfl ?_
          refine zs_get B fX2_close_9 rfl rfl dX2_close_23 ?_
          refine zs_alen (v := 12) B rfl (by decide) (by decide) dX2_close_26 ?_
          refine zs_icmp_ge (tgt := 64) B dX2_close_27 (by decide) (fun h3 => ?_) (fun h3 => ?_)
          · exact absurd ((nI_leI (by decide) (by omega)).mp (show nI 12 ≤ nI (p + t + 1) from h3)) (by omega)
          · refine zs_aload_n B dX2_close_30 (i := 0) rfl rfl ?_
            refine zs_get B fX2_close_9 rfl rfl dX2_close_31 ?_
            refine zs_iload_n B dX2_close_34 (i := 2) rfl rfl ?_
            refine zs_iconst (v := 1) B dX2_close_35 (by decide) ?_
            refine zs_isub B dX2_close_36 ?_
            refine zs_topi (fun y hy => ?_)
            rw [nI_pred] at hy
            subst hy
            refine zs_aload_n B dX2_close_37 (i := 0) rfl rfl ?_
            refine zs_get B fX2_close_9 rfl rfl dX2_close_38 ?_
            refine zs_iload_n B dX2_close_41 (i := 2) rfl rfl ?_
            refine zs_ial B (p + t + 1) rfl (by omega) (by decide) rfl dX2_close_42 ?_
            refine zs_ias B (p + t) rfl (by omega) (by decide) rfl dX2_close_43 ?_
            refine zs_aload_n B dX2_close_44 (i := 0) rfl rfl ?_
            refine zs_get B fX2_close_15 rfl rfl dX2_close_45 ?_
            refine zs_iload_n B dX2_close_48 (i := 2) rfl rfl ?_
            refine zs_iconst (v := 1) B dX2_close_49 (by decide) ?_
            refine zs_isub B dX2_close_50 ?_
            refine zs_topi (fun y hy => ?_)
            rw [nI_pred] at hy
            subst hy
            refine zs_aload_n B dX2_close_51 (i := 0) rfl rfl ?_
            refine zs_get B fX2_close_15 rfl rfl dX2_close_52 ?_
            refine zs_iload_n B dX2_close_55 (i := 2) rfl rfl ?_
            refine zs_ial B (p + t + 1) rfl (by omega) (by decide) rfl dX2_close_56 ?_
            refine zs_ias B (p + t) rfl (by omega) (by decide) rfl dX2_close_57 ?_
            refine zs_iinc B dX2_close_58 (i := 2) rfl (nI_1 (p + t + 1)) (by decide) rfl ?_
            refine zs_goto (tgt := 13) B dX2_close_61 (by decide) ?_
            refine zs_eq (wl' := zr_W 0 (d.1, zf_sh d.2.1 p (p + (t + 1)), zf_sh d.2.2 p (p + (t + 1)))) (lv' := [some (.ref 0), some (.int (nI p)), some (.int (nI (p + (t + 1) + 1)))]) ?_ rfl rfl rfl (ih (t + 1) (by omega))
            show [_, _, _] = [_, _, _]
            have e1 := zf_sh_s d.2.1 (p := p) (q := p + t) (by omega)
            have e2 := zf_sh_s d.2.2 (p := p) (q := p + t) (by omega)
            rw [show p + (t + 1) = p + t + 1 from rfl, ← e1, ← e2]
  · have h2 : zf_ix q L.length = none := Option.not_isSome_iff_eq_none.mp (by rw [zf_b_eq h1]; decide)
    exact zs_vret hA B rfl (by decide) (by decide) ⟨rfl, d, by rw [h2]; exact hR, rfl⟩ dX2_close_8
end
section
/-! the class Row: its methods that call several others -/
theorem zl_last_some {L : zr_L} {j : Nat} {q : Int32 × Int32} (h : L[j]? = some q) : zl_last L (some j) = L.eraseIdx j ++ [q] := by
  unfold zl_last
  rw [Option.bind_some, h]
  rfl
theorem zl_last_none {L : zr_L} : zl_last L none = L := rfl
set_option maxHeartbeats 4000000 in
theorem zr_putLast {l : Launch} (hl : l.stackTraces = false) (D : va_G) (dA : Nat → ClassId) (d : zr_D) (L : zr_L) (hR : zr_R L d) (q : Int32) : zw_Sp l D dA yX2_putLast wsX2_putLast 2 0 0 [.ref 0, .int q] (zr_W 0 d) (fun v w => v = none ∧ ∃ d', zr_R (zl_last L (zf_ix q L.length)) d' ∧ w = zr_W 0 d') (fun _ _ => False) := by
  refine zw_start hl (by decide) rfl rfl (Nat.le_of_ble_eq_true rfl) ?_
  intro pr e s m args below meth c ad A hA B
  have h12 : d.1 ≤ 12 := by rw [hR.1]; exact hR.2.1
  refine zs_aload_n B dX2_putLast_0 (i := 0) rfl rfl ?_
  refine zs_iload_n B dX2_putLast_1 (i := 1) rfl rfl ?_
  refine zs_callV (n := 1) [0, 1, 2] B (zr_holdsPlace hl D dA d h12 q) gX2_putLast_X2_holdsPlace rfl ⟨rfl, by decide, by decide, by decide +kernel⟩ rfl (by rfl) rfl rfl rfl (by rfl) ⟨(by exact Nat.le_of_ble_eq_true rfl), (by exact Nat.le_of_ble_eq_true rfl)⟩ (by exact Nat.le_of_ble_eq_true rfl) ⟨(by exact Nat.le_of_ble_eq_true rfl), (by exact Nat.le_of_ble_eq_true rfl)⟩ dX2_putLast_2 (by rintro v w ⟨rfl, rfl⟩; rfl) (fun _ _ h => h.elim) (fun _ _ h => h.elim) ?_
  rintro v w ⟨rfl, rfl⟩
  refine zs_eq (wl' := zr_W 0 d) (st' := [.int (zf_b (zf_ix q d.1).isSome)]) rfl rfl rfl rfl ?_
  rw [hR.1]
  refine zs_if_ne (tgt := 9) B dX2_putLast_5 (by decide) (fun h1 => ?_) (fun h1 => ?_)
  · obtain ⟨j, hj⟩ := Option.isSome_iff_exists.mp (zf_b_ne h1)
    rcases zf_ix_cases q (n := L.length) (by have := hR.2.1; omega) with ⟨-, h⟩ | ⟨-, -, h⟩ | ⟨p, hp, hqp, hix⟩
    · rw [h] at hj; cases hj
    · rw [h] at hj; cases hj
    · subst hqp
      rw [← hR.1] at hp
      obtain ⟨r, hr, hr1, hr2⟩ := hR.at hp
      rw [hix, zl_last_some hr]
      refine zs_aload_n B dX2_putLast_9 (i := 0) rfl rfl ?_
      refine zs_get B fX2_putLast_9 rfl rfl dX2_putLast_10 ?_
      refine zs_iload_n B dX2_putLast_13 (i := 1) rfl rfl ?_
      refine zs_ial B p rfl (by omega) (by decide) rfl dX2_putLast_14 ?_
      refine zs_istore_n B dX2_putLast_15 (i := 2) rfl (by decide) rfl ?_
      refine zs_aload_n B dX2_putLast_16 (i := 0) rfl rfl ?_
      refine zs_get B fX2_putLast_15 rfl rfl dX2_putLast_17 ?_
      refine zs_iload_n B dX2_putLast_20 (i := 1) rfl rfl ?_
      refine zs_ial B p rfl (by omega) (by decide) rfl dX2_putLast_21 ?_
      refine zs_istore_n B dX2_putLast_22 (i := 3) rfl (by decide) rfl ?_
      refine zs_aload_n B dX2_putLast_23 (i := 0) rfl rfl ?_
      refine zs_iload_n B dX2_putLast_24 (i := 1) rfl rfl ?_
      refine zs_callV (n := 1) [0, 1, 2] B (zr_close hl D dA d L hR (nI p)) gX2_putLast_X2_close rfl ⟨rfl, by decide, by decide, by decide +kernel⟩ rfl (by rfl) rfl rfl rfl (by rfl) ⟨(by exact Nat.le_of_ble_eq_true rfl), (by exact Nat.le_of_ble_eq_true rfl)⟩ (by exact Nat.le_of_ble_eq_true rfl) ⟨(by exact Nat.le_of_ble_eq_true rfl), (by exact Nat.le_of_ble_eq_true rfl)⟩ dX2_putLast_25 (by rintro v w ⟨rfl, d9, h9, rfl⟩; rfl) (fun _ _ h => h.elim) (fun _ _ h => h.elim) ?_
      rintro v w ⟨rfl, d', hd', rfl⟩
      rw [hix] at hd'
      refine zs_eq (wl' := zr_W 0 d') (st' := []) (lv' := [some (.ref 0), some (.int (nI p)), some (.int r.1), some (.int r.2)]) rfl (by rw [← hr1, ← hr2]; rfl) rfl rfl ?_
      refine zs_aload_n B dX2_putLast_28 (i := 0) rfl rfl ?_
      refine zs_iload_n B dX2_putLast_29 (i := 2) rfl rfl ?_
      refine zs_iload_n B dX2_putLast_30 (i := 3) rfl rfl ?_
      have hl9 : (zl_close L (some p)).length < 12 := by
        show (L.eraseIdx p).length < 12
        rw [List.length_eraseIdx, if_pos (by rw [← hR.1]; exact hp)]
        have := hR.1
        omega
      refine zs_callV (n := 2) [0, 1, 2] B (zr_append hl D dA d' _ hd' hl9 r.1 r.2) gX2_putLast_X2_append rfl ⟨rfl, by decide, by decide, by decide +kernel⟩ rfl (by rfl) rfl rfl rfl (by rfl) ⟨(by exact Nat.le_of_ble_eq_true rfl), (by exact Nat.le_of_ble_eq_true rfl)⟩ (by exact Nat.le_of_ble_eq_true rfl) ⟨(by exact Nat.le_of_ble_eq_true rfl), (by exact Nat.le_of_ble_eq_true rfl)⟩ dX2_putLast_31 (by rintro v w ⟨rfl, d9, h9, rfl⟩; rfl) (fun _ _ h => h.elim) (fun _ _ h => h.elim) ?_
      rintro v w ⟨rfl, d2, hd2, rfl⟩
      refine zs_eq (wl' := zr_W 0 d2) (st' := []) rfl rfl rfl rfl ?_
      exact zs_vret hA B rfl (by decide) (by decide) ⟨rfl, d2, hd2, rfl⟩ dX2_putLast_34
  · have h2 : zf_ix q L.length = none := Option.not_isSome_iff_eq_none.mp (by rw [zf_b_eq h1]; decide)
    exact zs_vret hA B rfl (by decide) (by decide) ⟨rfl, d, by rw [h2]; exact hR, rfl⟩ dX2_putLast_8
theorem zr_R0 (d : zr_D) : zr_R [] (0, d.2.1, d.2.2) := ⟨rfl, Nat.zero_le _, fun i q h => by cases h⟩
theorem zl_key_at {L : zr_L} {j : Nat} {q : Int32 × Int32} (hL : L.length ≤ 12) (h : L[j]? = some q) : zl_key L (zf_ix (nI j) L.length) = q.1 := by
  have hj := (List.getElem?_eq_some_iff.mp h).1
  rw [zf_ix_nI (by omega), if_pos hj]
  unfold zl_key
  rw [Option.bind_some, h]
theorem zl_val_at {L : zr_L} {j : Nat} {q : Int32 × Int32} (hL : L.length ≤ 12) (h : L[j]? = some q) : zl_val L (zf_ix (nI j) L.length) = q.2 := by
  have hj := (List.getElem?_eq_some_iff.mp h).1
  rw [zf_ix_nI (by omega), if_pos hj]
  unfold zl_val
  rw [Option.bind_some, h]
theorem zl_take_s {L : zr_L} {j : Nat} {q : Int32 × Int32} (h : L[j]? = some q) : L.take j ++ [q] = L.take (j + 1) := by
  rw [List.take_add_one, h]; rfl
set_option maxHeartbeats 4000000 in
theorem zr_become {l : Launch} (hl : l.stackTraces = false) (D : va_G) (dA : Nat → ClassId) (d d0 : zr_D) (L : zr_L) (hR : zr_R L d) : zw_Sp l D dA yX2_become wsX2_become 2 0 0 [.ref 0, .ref 3] (zr_W 0 d0 ++ zr_W 3 d) (fun v w => v = none ∧ ∃ d', zr_R L d' ∧ w = zr_W 0 d' ++ zr_W 3 d) (fun _ _ => False) := by
  refine zw_start hl (by decide) rfl rfl (Nat.le_of_ble_eq_true rfl) ?_
  intro pr e s m args below meth c ad A hA B
  have h12 := hR.2.1
  refine zs_aload_n B dX2_become_0 (i := 0) rfl rfl ?_
  refine zs_iconst (v := 0) B dX2_become_1 (by decide) ?_
  refine zs_put B (wX2_become_18 rfl rfl) rfl (Nat.le_of_ble_eq_true rfl) dX2_become_2 ?_
  refine zs_iconst (v := 0) B dX2_become_5 (by decide) ?_
  refine zs_istore_n B dX2_become_6 (i := 2) rfl (by decide) rfl ?_
  obtain ⟨d1, hd1⟩ : ∃ d1 : zr_D, d1 = (0, d0.2.1, d0.2.2) := ⟨_, rfl⟩
  refine zs_eq (wl' := zr_W 0 d1 ++ zr_W 3 d) (lv' := [some (.ref 0), some (.ref 3), some (.int (nI (zz 0)))]) (by rw [hd1]; rfl) rfl rfl rfl ?_
  obtain ⟨k, hk⟩ : ∃ k, k + zz 0 = L.length := ⟨L.length, rfl⟩
  have hinv : zr_R (L.take (zz 0)) d1 := by rw [hd1]; exact zr_R0 d0
  clear hd1
  generalize zz 0 = j at hk hinv ⊢
  induction k generalizing j d1 with
  | zero =>
    refine zs_iload_n B dX2_become_7 (i := 2) rfl rfl ?_
    refine zs_aload_n B dX2_become_8 (i := 1) rfl rfl ?_
    refine zs_get B fX2_become_18 rfl rfl dX2_become_9 ?_
    refine zs_icmp_ge (tgt := 35) B dX2_become_12 (by decide) (fun h1 => ?_) (fun h1 => ?_)
    · exact zs_vret hA B rfl (by decide) (by decide) ⟨rfl, d1, by rw [List.take_of_length_le (by omega)] at hinv; exact hinv, rfl⟩ dX2_become_35
    · exact absurd (nI_le (by rw [hR.1]; omega) (by omega)) h1
  | succ k ih =>
    refine zs_iload_n B dX2_become_7 (i := 2) rfl rfl ?_
    refine zs_aload_n B dX2_become_8 (i := 1) rfl rfl ?_
    refine zs_get B fX2_become_18 rfl rfl dX2_become_9 ?_
    refine zs_icmp_ge (tgt := 35) B dX2_become_12 (by decide) (fun h1 => ?_) (fun h1 => ?_)
    · exact absurd ((nI_leI (by rw [hR.1]; omega) (by omega)).mp h1) (by rw [hR.1]; omega)
    · obtain ⟨r, hr, -, -⟩ := hR.at (i := j) (by rw [hR.1]; omega)
      refine zs_aload_n B dX2_become_15 (i := 0) rfl rfl ?_
      refine zs_aload_n B dX2_become_16 (i := 1) rfl rfl ?_
      refine zs_iload_n B dX2_become_17 (i := 2) rfl rfl ?_
      refine zs_callV (n := 1) [3, 4, 5] B (zr_keyIn hl D dA d L hR (nI j)) gX2_become_X2_keyIn rfl ⟨rfl, by decide, by decide, by decide +kernel⟩ rfl (by rfl) rfl rfl rfl (by rfl) ⟨(by exact Nat.le_of_ble_eq_true rfl), (by exact Nat.le_of_ble_eq_true rfl)⟩ (by exact Nat.le_of_ble_eq_true rfl) ⟨(by exact Nat.le_of_ble_eq_true rfl), (by exact Nat.le_of_ble_eq_true rfl)⟩ dX2_become_18 (by rintro v w ⟨rfl, rfl⟩; rfl) (fun _ _ h => h.elim) (fun _ _ h => h.elim) ?_
      rintro v w ⟨rfl, rfl⟩
      rw [zl_key_at h12 hr]
      refine zs_eq (wl' := zr_W 0 d1 ++ zr_W 3 d) (st' := [.int r.1, .ref 0]) rfl rfl rfl rfl ?_
      refine zs_aload_n B dX2_become_21 (i := 1) rfl rfl ?_
      refine zs_iload_n B dX2_become_22 (i := 2) rfl rfl ?_
      refine zs_callV (n := 1) [3, 4, 5] B (zr_valueIn hl D dA d L hR (nI j)) gX2_become_X2_valueIn rfl ⟨rfl, by decide, by decide, by decide +kernel⟩ rfl (by rfl) rfl rfl rfl (by rfl) ⟨(by exact Nat.le_of_ble_eq_true rfl), (by exact Nat.le_of_ble_eq_true rfl)⟩ (by exact Nat.le_of_ble_eq_true rfl) ⟨(by exact Nat.le_of_ble_eq_true rfl), (by exact Nat.le_of_ble_eq_true rfl)⟩ dX2_become_23 (by rintro v w ⟨rfl, rfl⟩; rfl) (fun _ _ h => h.elim) (fun _ _ h => h.elim) ?_
      rintro v w ⟨rfl, rfl⟩
      rw [zl_val_at h12 hr]
      refine zs_eq (wl' := zr_W 0 d1 ++ zr_W 3 d) (st' := [.int r.2, .int r.1, .ref 0]) rfl rfl rfl rfl ?_
      have hl9 : (L.take j).length < 12 := by rw [List.length_take]; omega
      refine zs_callV (n := 2) [0, 1, 2] B (zr_append hl D dA d1 _ hinv hl9 r.1 r.2) gX2_become_X2_append rfl ⟨rfl, by decide, by decide, by decide +kernel⟩ rfl (by rfl) rfl rfl rfl (by rfl) ⟨(by exact Nat.le_of_ble_eq_true rfl), (by exact Nat.le_of_ble_eq_true rfl)⟩ (by exact Nat.le_of_ble_eq_true rfl) ⟨(by exact Nat.le_of_ble_eq_true rfl), (by exact Nat.le_of_ble_eq_true rfl)⟩ dX2_become_26 (by rintro v w ⟨rfl, d9, h9, rfl⟩; rfl) (fun _ _ h => h.elim) (fun _ _ h => h.elim) ?_
      rintro v w ⟨rfl, d2, hd2, rfl⟩
      rw [show [(r.1, r.2)] = [r] from rfl, zl_take_s hr] at hd2
      refine zs_eq (wl' := zr_W 0 d2 ++ zr_W 3 d) (st' := []) rfl rfl rfl rfl ?_
      refine zs_iinc B dX2_become_29 (i := 2) rfl (nI_1 j) (by decide) rfl ?_
      refine zs_goto (tgt := 7) B dX2_become_32 (by decide) ?_
      exact ih d2 (j + 1) (by omega) hd2
theorem zl_find_nodup {L : zr_L} (hN : (L.map (·.1)).Nodup) {j : Nat} {q : Int32 × Int32} (h : L[j]? = some q) : zl_find L q.1 = j := by
  refine zl_find_at h rfl (fun i r hi hr e => ?_)
  have h1 : (L.map (·.1))[i]? = some q.1 := by rw [List.getElem?_map, hr]; exact congrArg some e
  have h2 : (L.map (·.1))[j]? = some q.1 := by rw [List.getElem?_map, h]; rfl
  have hil := (List.getElem?_eq_some_iff.mp h1)
  have hjl := (List.getElem?_eq_some_iff.mp h2)
  exact (List.pairwise_iff_getElem.mp hN) i j hil.1 hjl.1 hi (hil.2.trans hjl.2.symm)
theorem zl_fi_at {L : zr_L} {key : Int32} {j : Nat} (hj : j < L.length) (h : zl_find L key = j) : zl_fi L key = nI j := by
  unfold zl_fi zf_i
  rw [h, if_pos hj]
set_option maxHeartbeats 4000000 in
theorem zr_tellsAlike {l : Launch} (hl : l.stackTraces = false) (D : va_G) (dA : Nat → ClassId) (d : zr_D) (L : zr_L) (hR : zr_R L d) (hN : (L.map (·.1)).Nodup) : zw_Sp l D dA yX2_tellsAlike wsX2_tellsAlike 3 0 0 [.ref 0] (zr_W 0 d) (fun v w => v = some (.int 1) ∧ w = zr_W 0 d) (fun _ _ => False) := by
  refine zw_start hl (by decide) rfl rfl (Nat.le_of_ble_eq_true rfl) ?_
  intro pr e s m args below meth c ad A hA B
  have h12 := hR.2.1
  refine zs_iconst (v := 0) B dX2_tellsAlike_0 (by decide) ?_
  refine zs_istore_n B dX2_tellsAlike_1 (i := 1) rfl (by decide) rfl ?_
  refine zs_eq (lv' := [some (.ref 0), some (.int (nI (zz 0)))]) rfl rfl rfl rfl ?_
  obtain ⟨k, hk⟩ : ∃ k, k + zz 0 = L.length := ⟨L.length, rfl⟩
  generalize zz 0 = j at hk ⊢
  induction k generalizing j with
  | zero =>
    refine zs_iload_n B dX2_tellsAlike_2 (i := 1) rfl rfl ?_
    refine zs_aload_n B dX2_tellsAlike_3 (i := 0) rfl rfl ?_
    refine zs_get B fX2_tellsAlike_18 rfl rfl dX2_tellsAlike_4 ?_
    refine zs_icmp_ge (tgt := 31) B dX2_tellsAlike_7 (by decide) (fun h1 => ?_) (fun h1 => ?_)
    · refine zs_iconst (v := 1) B dX2_tellsAlike_31 (by decide) ?_
      exact zs_zret hA B rfl rfl (by decide) (by decide) ⟨rfl, rfl⟩ dX2_tellsAlike_32
    · exact absurd (nI_le (by rw [hR.1]; omega) (by omega)) h1
  | succ k ih =>
    refine zs_iload_n B dX2_tellsAlike_2 (i := 1) rfl rfl ?_
    refine zs_aload_n B dX2_tellsAlike_3 (i := 0) rfl rfl ?_
    refine zs_get B fX2_tellsAlike_18 rfl rfl dX2_tellsAlike_4 ?_
    refine zs_icmp_ge (tgt := 31) B dX2_tellsAlike_7 (by decide) (fun h1 => ?_) (fun h1 => ?_)
    · exact absurd ((nI_leI (by rw [hR.1]; omega) (by omega)).mp h1) (by rw [hR.1]; omega)
    · obtain ⟨r, hr, -, -⟩ := hR.at (i := j) (by rw [hR.1]; omega)
      refine zs_aload_n B dX2_tellsAlike_10 (i := 0) rfl rfl ?_
      refine zs_aload_n B dX2_tellsAlike_11 (i := 0) rfl rfl ?_
      refine zs_iload_n B dX2_tellsAlike_12 (i := 1) rfl rfl ?_
      refine zs_callV (n := 1) [0, 1, 2] B (zr_keyIn hl D dA d L hR (nI j)) gX2_tellsAlike_X2_keyIn rfl ⟨rfl, by decide, by decide, by decide +kernel⟩ rfl (by rfl) rfl rfl rfl (by rfl) ⟨(by exact Nat.le_of_ble_eq_true rfl), (by exact Nat.le_of_ble_eq_true rfl)⟩ (by exact Nat.le_of_ble_eq_true rfl) ⟨(by exact Nat.le_of_ble_eq_true rfl), (by exact Nat.le_of_ble_eq_true rfl)⟩ dX2_tellsAlike_13 (by rintro v w ⟨rfl, rfl⟩; rfl) (fun _ _ h => h.elim) (fun _ _ h => h.elim) ?_
      rintro v w ⟨rfl, rfl⟩
      rw [zl_key_at h12 hr]
      refine zs_eq (wl' := zr_W 0 d) (st' := [.int r.1, .ref 0]) rfl rfl rfl rfl ?_
      refine zs_callV (n := 1) [0, 1, 2] B (zr_find hl D dA d L hR r.1) gX2_tellsAlike_X2_find rfl ⟨rfl, by decide, by decide, by decide +kernel⟩ rfl (by rfl) rfl rfl rfl (by rfl) ⟨(by exact Nat.le_of_ble_eq_true rfl), (by exact Nat.le_of_ble_eq_true rfl)⟩ (by exact Nat.le_of_ble_eq_true rfl) ⟨(by exact Nat.le_of_ble_eq_true rfl), (by exact Nat.le_of_ble_eq_true rfl)⟩ dX2_tellsAlike_16 (by rintro v w ⟨rfl, rfl⟩; rfl) (fun _ _ h => h.elim) (fun _ _ h => h.elim) ?_
      rintro v w ⟨rfl, rfl⟩
      rw [zl_fi_at (by omega) (zl_find_nodup hN hr)]
      refine zs_eq (wl' := zr_W 0 d) (st' := [.int (nI j)]) rfl rfl rfl rfl ?_
      refine zs_iload_n B dX2_tellsAlike_19 (i := 1) rfl rfl ?_
      refine zs_icmp_eq (tgt := 25) B dX2_tellsAlike_20 (by decide) (fun h2 => ?_) (fun h2 => ?_)
      · refine zs_iinc B dX2_tellsAlike_25 (i := 1) rfl (nI_1 j) (by decide) rfl ?_
        refine zs_goto (tgt := 2) B dX2_tellsAlike_28 (by decide) ?_
        exact ih (j + 1) (by omega)
      · exact absurd rfl h2
set_option maxHeartbeats 4000000 in
theorem zr_hasEntriesOf {l : Launch} (hl : l.stackTraces = false) (D : va_G) (dA : Nat → ClassId) (d d' : zr_D) (L L' : zr_L) (hR : zr_R L d) (hR' : zr_R L' d') (hN : (L.map (·.1)).Nodup) (hM : ∀ q ∈ L', q ∈ L) : zw_Sp l D dA yX2_hasEntriesOf wsX2_hasEntriesOf 3 0 0 [.ref 0, .ref 3] (zr_W 0 d ++ zr_W 3 d') (fun v w => v = some (.int 1) ∧ w = zr_W 0 d ++ zr_W 3 d') (fun _ _ => False) := by
  refine zw_start hl (by decide) rfl rfl (Nat.le_of_ble_eq_true rfl) ?_
  intro pr e s m args below meth c ad A hA B
  have h12 := hR.2.1
  have h12' := hR'.2.1
  refine zs_iconst (v := 0) B dX2_hasEntriesOf_0 (by decide) ?_
  refine zs_istore_n B dX2_hasEntriesOf_1 (i := 2) rfl (by decide) rfl ?_
  refine zs_eq (lv' := [some (.ref 0), some (.ref 3), some (.int (nI (zz 0))), none]) rfl rfl rfl rfl ?_
  obtain ⟨o, ho⟩ : ∃ o : Option Value, o = none := ⟨_, rfl⟩
  have hok : zw_ok [some (.ref 0), some (.ref 3), some (.int (nI (zz 0))), o] 3 = true := rfl
  rw [← ho]
  clear ho hok
  obtain ⟨k, hk⟩ : ∃ k, k + zz 0 = L'.length := ⟨L'.length, rfl⟩
  generalize zz 0 = j at hk ⊢
  induction k generalizing j o with
  | zero =>
    refine zs_iload_n B dX2_hasEntriesOf_2 (i := 2) rfl rfl ?_
    refine zs_aload_n B dX2_hasEntriesOf_3 (i := 1) rfl rfl ?_
    refine zs_get B fX2_hasEntriesOf_18 rfl rfl dX2_hasEntriesOf_4 ?_
    refine zs_icmp_ge (tgt := 46) B dX2_hasEntriesOf_7 (by decide) (fun h1 => ?_) (fun h1 => ?_)
    · refine zs_iconst (v := 1) B dX2_hasEntriesOf_46 (by decide) ?_
      exact zs_zret hA B rfl rfl (by decide) (by decide) ⟨rfl, rfl⟩ dX2_hasEntriesOf_47
    · exact absurd (nI_le (by rw [hR'.1]; omega) (by omega)) h1
  | succ k ih =>
    refine zs_iload_n B dX2_hasEntriesOf_2 (i := 2) rfl rfl ?_
    refine zs_aload_n B dX2_hasEntriesOf_3 (i := 1) rfl rfl ?_
    refine zs_get B fX2_hasEntriesOf_18 rfl rfl dX2_hasEntriesOf_4 ?_
    refine zs_icmp_ge (tgt := 46) B dX2_hasEntriesOf_7 (by decide) (fun h1 => ?_) (fun h1 => ?_)
    · exact absurd ((nI_leI (by rw [hR'.1]; omega) (by omega)).mp h1) (by rw [hR'.1]; omega)
    · obtain ⟨r, hr, -, -⟩ := hR'.at (i := j) (by rw [hR'.1]; omega)
      obtain ⟨p, hp⟩ := List.getElem?_of_mem (hM r (List.mem_of_getElem? hr))
      have hpl := (List.getElem?_eq_some_iff.mp hp).1
      refine zs_aload_n B dX2_hasEntriesOf_10 (i := 0) rfl rfl ?_
      refine zs_aload_n B dX2_hasEntriesOf_11 (i := 1) rfl rfl ?_
      refine zs_iload_n B dX2_hasEntriesOf_12 (i := 2) rfl rfl ?_
      refine zs_callV (n := 1) [3, 4, 5] B (zr_keyIn hl D dA d' L' hR' (nI j)) gX2_hasEntriesOf_X2_keyIn rfl ⟨rfl, by decide, by decide, by decide +kernel⟩ rfl (by rfl) rfl rfl rfl (by rfl) ⟨(by exact Nat.le_of_ble_eq_true rfl), (by exact Nat.le_of_ble_eq_true rfl)⟩ (by exact Nat.le_of_ble_eq_true rfl) ⟨(by exact Nat.le_of_ble_eq_true rfl), (by exact Nat.le_of_ble_eq_true rfl)⟩ dX2_hasEntriesOf_13 (by rintro v w ⟨rfl, rfl⟩; rfl) (fun _ _ h => h.elim) (fun _ _ h => h.elim) ?_
      rintro v w ⟨rfl, rfl⟩
      rw [zl_key_at h12' hr]
      refine zs_eq (wl' := zr_W 0 d ++ zr_W 3 d') (st' := [.int r.1, .ref 0]) rfl rfl rfl rfl ?_
      refine zs_callV (n := 1) [0, 1, 2] B (zr_find hl D dA d L hR r.1) gX2_hasEntriesOf_X2_find rfl ⟨rfl, by decide, by decide, by decide +kernel⟩ rfl (by rfl) rfl rfl rfl (by rfl) ⟨(by exact Nat.le_of_ble_eq_true rfl), (by exact Nat.le_of_ble_eq_true rfl)⟩ (by exact Nat.le_of_ble_eq_true rfl) ⟨(by exact Nat.le_of_ble_eq_true rfl), (by exact Nat.le_of_ble_eq_true rfl)⟩ dX2_hasEntriesOf_16 (by rintro v w ⟨rfl, rfl⟩; rfl) (fun _ _ h => h.elim) (fun _ _ h => h.elim) ?_
      rintro v w ⟨rfl, rfl⟩
      rw [zl_fi_at hpl (zl_find_nodup hN hp)]
      refine zs_eq (wl' := zr_W 0 d ++ zr_W 3 d') (st' := [.int (nI p)]) rfl rfl rfl rfl ?_
      refine zs_istore_n B dX2_hasEntriesOf_19 (i := 3) rfl (by decide) rfl ?_
      refine zs_iload_n B dX2_hasEntriesOf_20 (i := 3) rfl rfl ?_
      refine zs_iconst (v := (-1)) B dX2_hasEntriesOf_21 (by decide) ?_
      refine zs_icmp_eq (tgt := 38) B dX2_hasEntriesOf_22 (by decide) (fun h2 => ?_) (fun h2 => ?_)
      · exfalso
        have := nI_pos (n := p) (by omega)
        rw [h2] at this
        exact this (by decide)
      · refine zs_aload_n B dX2_hasEntriesOf_25 (i := 0) rfl rfl ?_
        refine zs_iload_n B dX2_hasEntriesOf_26 (i := 3) rfl rfl ?_
        refine zs_callV (n := 1) [0, 1, 2] B (zr_valueIn hl D dA d L hR (nI p)) gX2_hasEntriesOf_X2_valueIn rfl ⟨rfl, by decide, by decide, by decide +kernel⟩ rfl (by rfl) rfl rfl rfl (by rfl) ⟨(by exact Nat.le_of_ble_eq_true rfl), (by exact Nat.le_of_ble_eq_true rfl)⟩ (by exact Nat.le_of_ble_eq_true rfl) ⟨(by exact Nat.le_of_ble_eq_true rfl), (by exact Nat.le_of_ble_eq_true rfl)⟩ dX2_hasEntriesOf_27 (by rintro v w ⟨rfl, rfl⟩; rfl) (fun _ _ h => h.elim) (fun _ _ h => h.elim) ?_
        rintro v w ⟨rfl, rfl⟩
        rw [zl_val_at h12 hp]
        refine zs_eq (wl' := zr_W 0 d ++ zr_W 3 d') (st' := [.int r.2]) rfl rfl rfl rfl ?_
        refine zs_aload_n B dX2_hasEntriesOf_30 (i := 1) rfl rfl ?_
        refine zs_iload_n B dX2_hasEntriesOf_31 (i := 2) rfl rfl ?_
        refine zs_callV (n := 1) [3, 4, 5] B (zr_valueIn hl D dA d' L' hR' (nI j)) gX2_hasEntriesOf_X2_valueIn rfl ⟨rfl, by decide, by decide, by decide +kernel⟩ rfl (by rfl) rfl rfl rfl (by rfl) ⟨(by exact Nat.le_of_ble_eq_true rfl), (by exact Nat.le_of_ble_eq_true rfl)⟩ (by exact Nat.le_of_ble_eq_true rfl) ⟨(by exact Nat.le_of_ble_eq_true rfl), (by exact Nat.le_of_ble_eq_true rfl)⟩ dX2_hasEntriesOf_32 (by rintro v w ⟨rfl, rfl⟩; rfl) (fun _ _ h => h.elim) (fun _ _ h => h.elim) ?_
        rintro v w ⟨rfl, rfl⟩
        rw [zl_val_at h12' hr]
        refine zs_eq (wl' := zr_W 0 d ++ zr_W 3 d') (st' := [.int r.2, .int r.2]) rfl rfl rfl rfl ?_
        refine zs_icmp_eq (tgt := 40) B dX2_hasEntriesOf_35 (by decide) (fun h3 => ?_) (fun h3 => absurd rfl h3)
        refine zs_iinc B dX2_hasEntriesOf_40 (i := 2) rfl (nI_1 j) (by decide) rfl ?_
        refine zs_goto (tgt := 2) B dX2_hasEntriesOf_43 (by decide) ?_
        exact ih (some (.int (nI p))) (j + 1) (by omega)
set_option maxHeartbeats 4000000 in
theorem zr_sameAs {l : Launch} (hl : l.stackTraces = false) (D : va_G) (dA : Nat → ClassId) (d d' : zr_D) (L : zr_L) (hR : zr_R L d) (hR' : zr_R L d') : zw_Sp l D dA yX2_sameAs wsX2_sameAs 2 0 0 [.ref 0, .ref 3] (zr_W 0 d ++ zr_W 3 d') (fun v w => v = some (.int 1) ∧ w = zr_W 0 d ++ zr_W 3 d') (fun _ _ => False) := by
  refine zw_start hl (by decide) rfl rfl (Nat.le_of_ble_eq_true rfl) ?_
  intro pr e s m args below meth c ad A hA B
  have h12 := hR.2.1
  refine zs_aload_n B dX2_sameAs_0 (i := 0) rfl rfl ?_
  refine zs_get B fX2_sameAs_18 rfl rfl dX2_sameAs_1 ?_
  refine zs_aload_n B dX2_sameAs_4 (i := 1) rfl rfl ?_
  refine zs_get B fX2_sameAs_18 rfl rfl dX2_sameAs_5 ?_
  refine zs_icmp_eq (tgt := 13) B dX2_sameAs_8 (by decide) (fun h0 => ?_) (fun h0 => absurd (by rw [hR.1, hR'.1]) h0)
  refine zs_iconst (v := 0) B dX2_sameAs_13 (by decide) ?_
  refine zs_istore_n B dX2_sameAs_14 (i := 2) rfl (by decide) rfl ?_
  refine zs_eq (lv' := [some (.ref 0), some (.ref 3), some (.int (nI (zz 0)))]) rfl rfl rfl rfl ?_
  obtain ⟨k, hk⟩ : ∃ k, k + zz 0 = L.length := ⟨L.length, rfl⟩
  generalize zz 0 = j at hk ⊢
  induction k generalizing j with
  | zero =>
    refine zs_iload_n B dX2_sameAs_15 (i := 2) rfl rfl ?_
    refine zs_aload_n B dX2_sameAs_16 (i := 0) rfl rfl ?_
    refine zs_get B fX2_sameAs_18 rfl rfl dX2_sameAs_17 ?_
    refine zs_icmp_ge (tgt := 57) B dX2_sameAs_20 (by decide) (fun h1 => ?_) (fun h1 => ?_)
    · refine zs_iconst (v := 1) B dX2_sameAs_57 (by decide) ?_
      exact zs_zret hA B rfl rfl (by decide) (by decide) ⟨rfl, rfl⟩ dX2_sameAs_58
    · exact absurd (nI_le (by rw [hR.1]; omega) (by omega)) h1
  | succ k ih =>
    refine zs_iload_n B dX2_sameAs_15 (i := 2) rfl rfl ?_
    refine zs_aload_n B dX2_sameAs_16 (i := 0) rfl rfl ?_
    refine zs_get B fX2_sameAs_18 rfl rfl dX2_sameAs_17 ?_
    refine zs_icmp_ge (tgt := 57) B dX2_sameAs_20 (by decide) (fun h1 => ?_) (fun h1 => ?_)
    · exact absurd ((nI_leI (by rw [hR.1]; omega) (by omega)).mp h1) (by rw [hR.1]; omega)
    · obtain ⟨r, hr, -, -⟩ := hR.at (i := j) (by rw [hR.1]; omega)
      refine zs_aload_n B dX2_sameAs_23 (i := 0) rfl rfl ?_
      refine zs_iload_n B dX2_sameAs_24 (i := 2) rfl rfl ?_
      refine zs_callV (n := 1) [0, 1, 2] B (zr_keyIn hl D dA d L hR (nI j)) gX2_sameAs_X2_keyIn rfl ⟨rfl, by decide, by decide, by decide +kernel⟩ rfl (by rfl) rfl rfl rfl (by rfl) ⟨(by exact Nat.le_of_ble_eq_true rfl), (by exact Nat.le_of_ble_eq_true rfl)⟩ (by exact Nat.le_of_ble_eq_true rfl) ⟨(by exact Nat.le_of_ble_eq_true rfl), (by exact Nat.le_of_ble_eq_true rfl)⟩ dX2_sameAs_25 (by rintro v w ⟨rfl, rfl⟩; rfl) (fun _ _ h => h.elim) (fun _ _ h => h.elim) ?_
      rintro v w ⟨rfl, rfl⟩
      rw [zl_key_at h12 hr]
      refine zs_eq (wl' := zr_W 0 d ++ zr_W 3 d') (st' := [.int r.1]) rfl rfl rfl rfl ?_
      refine zs_aload_n B dX2_sameAs_28 (i := 1) rfl rfl ?_
      refine zs_iload_n B dX2_sameAs_29 (i := 2) rfl rfl ?_
      refine zs_callV (n := 1) [3, 4, 5] B (zr_keyIn hl D dA d' L hR' (nI j)) gX2_sameAs_X2_keyIn rfl ⟨rfl, by decide, by decide, by decide +kernel⟩ rfl (by rfl) rfl rfl rfl (by rfl) ⟨(by exact Nat.le_of_ble_eq_true rfl), (by exact Nat.le_of_ble_eq_true rfl)⟩ (by exact Nat.le_of_ble_eq_true rfl) ⟨(by exact Nat.le_of_ble_eq_true rfl), (by exact Nat.le_of_ble_eq_true rfl)⟩ dX2_sameAs_30 (by rintro v w ⟨rfl, rfl⟩; rfl) (fun _ _ h => h.elim) (fun _ _ h => h.elim) ?_
      rintro v w ⟨rfl, rfl⟩
      rw [zl_key_at h12 hr]
      refine zs_eq (wl' := zr_W 0 d ++ zr_W 3 d') (st' := [.int r.1, .int r.1]) rfl rfl rfl rfl ?_
      refine zs_icmp_ne (tgt := 49) B dX2_sameAs_33 (by decide) (fun h2 => absurd rfl h2) (fun h2 => ?_)
      refine zs_aload_n B dX2_sameAs_36 (i := 0) rfl rfl ?_
      refine zs_iload_n B dX2_sameAs_37 (i := 2) rfl rfl ?_
      refine zs_callV (n := 1) [0, 1, 2] B (zr_valueIn hl D dA d L hR (nI j)) gX2_sameAs_X2_valueIn rfl ⟨rfl, by decide, by decide, by decide +kernel⟩ rfl (by rfl) rfl rfl rfl (by rfl) ⟨(by exact Nat.le_of_ble_eq_true rfl), (by exact Nat.le_of_ble_eq_true rfl)⟩ (by exact Nat.le_of_ble_eq_true rfl) ⟨(by exact Nat.le_of_ble_eq_true rfl), (by exact Nat.le_of_ble_eq_true rfl)⟩ dX2_sameAs_38 (by rintro v w ⟨rfl, rfl⟩; rfl) (fun _ _ h => h.elim) (fun _ _ h => h.elim) ?_
      rintro v w ⟨rfl, rfl⟩
      rw [zl_val_at h12 hr]
      refine zs_eq (wl' := zr_W 0 d ++ zr_W 3 d') (st' := [.int r.2]) rfl rfl rfl rfl ?_
      refine zs_aload_n B dX2_sameAs_41 (i := 1) rfl rfl ?_
      refine zs_iload_n B dX2_sameAs_42 (i := 2) rfl rfl ?_
      refine zs_callV (n := 1) [3, 4, 5] B (zr_valueIn hl D dA d' L hR' (nI j)) gX2_sameAs_X2_valueIn rfl ⟨rfl, by decide, by decide, by decide +kernel⟩ rfl (by rfl) rfl rfl rfl (by rfl) ⟨(by exact Nat.le_of_ble_eq_true rfl), (by exact Nat.le_of_ble_eq_true rfl)⟩ (by exact Nat.le_of_ble_eq_true rfl) ⟨(by exact Nat.le_of_ble_eq_true rfl), (by exact Nat.le_of_ble_eq_true rfl)⟩ dX2_sameAs_43 (by rintro v w ⟨rfl, rfl⟩; rfl) (fun _ _ h => h.elim) (fun _ _ h => h.elim) ?_
      rintro v w ⟨rfl, rfl⟩
      rw [zl_val_at h12 hr]
      refine zs_eq (wl' := zr_W 0 d ++ zr_W 3 d') (st' := [.int r.2, .int r.2]) rfl rfl rfl rfl ?_
      refine zs_icmp_eq (tgt := 51) B dX2_sameAs_46 (by decide) (fun h3 => ?_) (fun h3 => absurd rfl h3)
      refine zs_iinc B dX2_sameAs_51 (i := 2) rfl (nI_1 j) (by decide) rfl ?_
      refine zs_goto (tgt := 15) B dX2_sameAs_54 (by decide) ?_
      exact ih (j + 1) (by omega)
end
section
/-! the class Page: two rows, the limit, the way -/
abbrev zp_D : Type := zr_D × zr_D × Int32 × Int32
abbrev zp_L : Type := zr_L × zr_L × Int32 × Int32
def zp_W (i : Nat) (g : zp_D) : List zw_E := .inr (0, [.ref (i + 1), .ref (i + 4), .int g.2.2.1, .int g.2.2.2]) :: (zr_W (i + 1) g.1 ++ zr_W (i + 4) g.2.1)
def zp_R (S : zp_L) (g : zp_D) : Prop := zr_R S.1 g.1 ∧ zr_R S.2.1 g.2.1 ∧ S.2.2 = g.2.2
def zl_fo (L : zr_L) (key : Int32) : Option Nat := zf_ix (zl_fi L key) L.length
def zp_give (S : zp_L) (key v : Int32) : zp_L := (zl_give S.1 (zl_fo S.1 key) v, zl_give S.2.1 (zl_fo S.2.1 key) v, S.2.2)
def zp_touch (S : zp_L) (key : Int32) : zp_L := (S.1, zl_last S.2.1 (zl_fo S.2.1 key), S.2.2)
def zp_take (S : zp_L) (key : Int32) : zp_L := (zl_close S.1 (zl_fo S.1 key), zl_close S.2.1 (zl_fo S.2.1 key), S.2.2)
def zp_row (S : zp_L) (o : Int32) : zr_L := if o = 97 then S.2.1 else S.1
def zp_first (S : zp_L) : Int32 := zl_key (zp_row S S.2.2.2) (zf_ix 0 (zp_row S S.2.2.2).length)
def zp_drop (S : zp_L) : zp_L := zp_take S (zp_first S)
def zp_app (S : zp_L) (k v : Int32) : zp_L := (S.1 ++ [(k, v)], S.2.1 ++ [(k, v)], S.2.2)
def zp_drops (S : zp_L) : Nat → zp_L
  | 0 => S
  | n + 1 => zp_drops (zp_drop S) n
def zp_each (o : Int32) (ee : Nat) : Nat → zp_L → zp_L
  | 0, S => S
  | t + 1, S => zp_each o ee t (zp_take S (zl_key (zp_row S o) (zf_ix (nI ((t + 1) * ee - 1)) (zp_row S o).length)))
def zl_stay (C : zr_L) : zr_L → Int32 → Nat
  | [], _ => 0
  | q :: A, last => if zl_fi C q.1 < last then 0 else zl_stay C A (zl_fi C q.1) + 1
def zl_at (L : zr_L) (j : Nat) : Int32 := zl_key L (some j)
def zl_cr1 (C A : zr_L) (x : Int32) : Nat → Nat
  | 0 => 0
  | m + 1 => zl_cr1 C A x m + (if x < zl_fi C (zl_at A m) then 1 else 0)
def zl_cr (C A : zr_L) : Nat → Nat
  | 0 => 0
  | m + 1 => zl_cr C A m + zl_cr1 C A (zl_fi C (zl_at A m)) m
theorem zr_R.len {L : zr_L} {d : zr_D} (h : zr_R L d) : L.length ≤ 12 := h.2.1
theorem zl_fi_lt {L : zr_L} (hL : L.length ≤ 12) (key : Int32) : zl_fi L key = -1 ↔ ¬ zl_find L key < L.length := zf_i_m1 (by omega)
theorem zp_row_R {S : zp_L} {g : zp_D} (h : zp_R S g) (o : Int32) : zr_R (zp_row S o) (if o = 97 then g.2.1 else g.1) := by
  unfold zp_row
  split
  · exact h.2.1
  · exact h.1
set_option maxHeartbeats 4000000 in
theorem zp_rowM {l : Launch} (hl : l.stackTraces = false) (D : va_G) (dA : Nat → ClassId) (g : zp_D) (o : Int32) : zw_Sp l D dA yX0_row wsX0_row 0 0 0 [.ref 0, .int o] (zp_W 0 g) (fun v w => v = some (.ref (if o = 97 then 4 else 1)) ∧ w = zp_W 0 g) (fun _ _ => False) := by
  refine zw_start hl (by decide) rfl rfl (Nat.le_of_ble_eq_true rfl) ?_
  intro pr e s m args below meth c ad A hA B
  refine zs_iload_n B dX0_row_0 (i := 1) rfl rfl ?_
  refine zs_bipush (v := 97) B dX0_row_1 (by decide) ?_
  refine zs_icmp_ne (tgt := 13) B dX0_row_3 (by decide) (fun h => ?_) (fun h => ?_)
  · refine zs_aload_n B dX0_row_13 (i := 0) rfl rfl ?_
    refine zs_get B fX0_row_12 rfl rfl dX0_row_14 ?_
    exact zs_aret hA B rfl (Or.inl ⟨_, rfl⟩) (by decide) (by decide) ⟨by rw [if_neg h], rfl⟩ dX0_row_17
  · refine zs_aload_n B dX0_row_6 (i := 0) rfl rfl ?_
    refine zs_get B fX0_row_18 rfl rfl dX0_row_7 ?_
    refine zs_goto (tgt := 17) B dX0_row_10 (by decide) ?_
    exact zs_aret hA B rfl (Or.inl ⟨_, rfl⟩) (by decide) (by decide) ⟨by rw [if_pos h], rfl⟩ dX0_row_17
set_option maxHeartbeats 4000000 in
theorem zp_holds {l : Launch} (hl : l.stackTraces = false) (D : va_G) (dA : Nat → ClassId) (g : zp_D) (S : zp_L) (hR : zp_R S g) (key : Int32) : zw_Sp l D dA yX0_holds wsX0_holds 3 0 0 [.ref 0, .int key] (zp_W 0 g) (fun v w => v = some (.int (zf_b (decide (zl_find S.1 key < S.1.length)))) ∧ w = zp_W 0 g) (fun _ _ => False) := by
  refine zw_start hl (by decide) rfl rfl (Nat.le_of_ble_eq_true rfl) ?_
  intro pr e s m args below meth c ad A hA B
  refine zs_aload_n B dX0_holds_0 (i := 0) rfl rfl ?_
  refine zs_get B fX0_holds_12 rfl rfl dX0_holds_1 ?_
  refine zs_iload_n B dX0_holds_4 (i := 1) rfl rfl ?_
  refine zs_callV (n := 1) [1, 2, 3] B (zr_find hl D dA g.1 S.1 hR.1 key) gX0_holds_X2_find rfl ⟨rfl, by decide, by decide, by decide +kernel⟩ rfl (by rfl) rfl rfl rfl (by rfl) ⟨(by exact Nat.le_of_ble_eq_true rfl), (by exact Nat.le_of_ble_eq_true rfl)⟩ (by exact Nat.le_of_ble_eq_true rfl) ⟨(by exact Nat.le_of_ble_eq_true rfl), (by exact Nat.le_of_ble_eq_true rfl)⟩ dX0_holds_5 (by rintro v w ⟨rfl, rfl⟩; rfl) (fun _ _ h => h.elim) (fun _ _ h => h.elim) ?_
  rintro v w ⟨rfl, rfl⟩
  refine zs_eq (wl' := zp_W 0 g) (st' := [.int (zl_fi S.1 key)]) rfl rfl rfl rfl ?_
  refine zs_iconst (v := (-1)) B dX0_holds_8 (by decide) ?_
  refine zs_icmp_eq (tgt := 16) B dX0_holds_9 (by decide) (fun h => ?_) (fun h => ?_)
  · refine zs_iconst (v := 0) B dX0_holds_16 (by decide) ?_
    exact zs_zret hA B rfl rfl (by decide) (by decide) ⟨by rw [decide_eq_false ((zl_fi_lt hR.1.len key).mp h)]; rfl, rfl⟩ dX0_holds_17
  · refine zs_iconst (v := 1) B dX0_holds_12 (by decide) ?_
    refine zs_goto (tgt := 17) B dX0_holds_13 (by decide) ?_
    exact zs_zret hA B rfl rfl (by decide) (by decide) ⟨by rw [decide_eq_true (Classical.not_not.mp (fun q => h ((zl_fi_lt hR.1.len key).mpr q)))]; rfl, rfl⟩ dX0_holds_17
set_option maxHeartbeats 4000000 in
theorem zp_valueOf {l : Launch} (hl : l.stackTraces = false) (D : va_G) (dA : Nat → ClassId) (g : zp_D) (S : zp_L) (hR : zp_R S g) (key : Int32) : zw_Sp l D dA yX0_valueOf wsX0_valueOf 3 0 0 [.ref 0, .int key] (zp_W 0 g) (fun v w => v = some (.int (zl_val S.1 (zl_fo S.1 key))) ∧ w = zp_W 0 g) (fun _ _ => False) := by
  refine zw_start hl (by decide) rfl rfl (Nat.le_of_ble_eq_true rfl) ?_
  intro pr e s m args below meth c ad A hA B
  refine zs_aload_n B dX0_valueOf_0 (i := 0) rfl rfl ?_
  refine zs_get B fX0_valueOf_12 rfl rfl dX0_valueOf_1 ?_
  refine zs_aload_n B dX0_valueOf_4 (i := 0) rfl rfl ?_
  refine zs_get B fX0_valueOf_12 rfl rfl dX0_valueOf_5 ?_
  refine zs_iload_n B dX0_valueOf_8 (i := 1) rfl rfl ?_
  refine zs_callV (n := 1) [1, 2, 3] B (zr_find hl D dA g.1 S.1 hR.1 key) gX0_valueOf_X2_find rfl ⟨rfl, by decide, by decide, by decide +kernel⟩ rfl (by rfl) rfl rfl rfl (by rfl) ⟨(by exact Nat.le_of_ble_eq_true rfl), (by exact Nat.le_of_ble_eq_true rfl)⟩ (by exact Nat.le_of_ble_eq_true rfl) ⟨(by exact Nat.le_of_ble_eq_true rfl), (by exact Nat.le_of_ble_eq_true rfl)⟩ dX0_valueOf_9 (by rintro v w ⟨rfl, rfl⟩; rfl) (fun _ _ h => h.elim) (fun _ _ h => h.elim) ?_
  rintro v w ⟨rfl, rfl⟩
  refine zs_eq (wl' := zp_W 0 g) (st' := [.int (zl_fi S.1 key), .ref 1]) rfl rfl rfl rfl ?_
  refine zs_callV (n := 1) [1, 2, 3] B (zr_valueIn hl D dA g.1 S.1 hR.1 (zl_fi S.1 key)) gX0_valueOf_X2_valueIn rfl ⟨rfl, by decide, by decide, by decide +kernel⟩ rfl (by rfl) rfl rfl rfl (by rfl) ⟨(by exact Nat.le_of_ble_eq_true rfl), (by exact Nat.le_of_ble_eq_true rfl)⟩ (by exact Nat.le_of_ble_eq_true rfl) ⟨(by exact Nat.le_of_ble_eq_true rfl), (by exact Nat.le_of_ble_eq_true rfl)⟩ dX0_valueOf_12 (by rintro v w ⟨rfl, rfl⟩; rfl) (fun _ _ h => h.elim) (fun _ _ h => h.elim) ?_
  rintro v w ⟨rfl, rfl⟩
  exact zs_zret hA B rfl rfl (by decide) (by decide) ⟨rfl, rfl⟩ dX0_valueOf_15
set_option maxHeartbeats 4000000 in
theorem zp_giveKey {l : Launch} (hl : l.stackTraces = false) (D : va_G) (dA : Nat → ClassId) (g : zp_D) (S : zp_L) (hR : zp_R S g) (key x : Int32) : zw_Sp l D dA yX0_giveKey wsX0_giveKey 3 0 0 [.ref 0, .int key, .int x] (zp_W 0 g) (fun v w => v = none ∧ ∃ g', zp_R (zp_give S key x) g' ∧ w = zp_W 0 g') (fun _ _ => False) := by
  refine zw_start hl (by decide) rfl rfl (Nat.le_of_ble_eq_true rfl) ?_
  intro pr e s m args below meth c ad A hA B
  refine zs_aload_n B dX0_giveKey_0 (i := 0) rfl rfl ?_
  refine zs_get B fX0_giveKey_12 rfl rfl dX0_giveKey_1 ?_
  refine zs_aload_n B dX0_giveKey_4 (i := 0) rfl rfl ?_
  refine zs_get B fX0_giveKey_12 rfl rfl dX0_giveKey_5 ?_
  refine zs_iload_n B dX0_giveKey_8 (i := 1) rfl rfl ?_
  refine zs_callV (n := 1) [1, 2, 3] B (zr_find hl D dA g.1 S.1 hR.1 key) gX0_giveKey_X2_find rfl ⟨rfl, by decide, by decide, by decide +kernel⟩ rfl (by rfl) rfl rfl rfl (by rfl) ⟨(by exact Nat.le_of_ble_eq_true rfl), (by exact Nat.le_of_ble_eq_true rfl)⟩ (by exact Nat.le_of_ble_eq_true rfl) ⟨(by exact Nat.le_of_ble_eq_true rfl), (by exact Nat.le_of_ble_eq_true rfl)⟩ dX0_giveKey_9 (by rintro v w ⟨rfl, rfl⟩; rfl) (fun _ _ h => h.elim) (fun _ _ h => h.elim) ?_
  rintro v w ⟨rfl, rfl⟩
  refine zs_eq (wl' := zp_W 0 g) (st' := [.int (zl_fi S.1 key), .ref 1]) rfl rfl rfl rfl ?_
  refine zs_iload_n B dX0_giveKey_12 (i := 2) rfl rfl ?_
  refine zs_callV (n := 2) [1, 2, 3] B (zr_give hl D dA g.1 S.1 hR.1 (zl_fi S.1 key) x) gX0_giveKey_X2_give rfl ⟨rfl, by decide, by decide, by decide +kernel⟩ rfl (by rfl) rfl rfl rfl (by rfl) ⟨(by exact Nat.le_of_ble_eq_true rfl), (by exact Nat.le_of_ble_eq_true rfl)⟩ (by exact Nat.le_of_ble_eq_true rfl) ⟨(by exact Nat.le_of_ble_eq_true rfl), (by exact Nat.le_of_ble_eq_true rfl)⟩ dX0_giveKey_13 (by rintro v w ⟨rfl, d9, h9, rfl⟩; rfl) (fun _ _ h => h.elim) (fun _ _ h => h.elim) ?_
  rintro v w ⟨rfl, d1, hd1, rfl⟩
  refine zs_eq (wl' := zp_W 0 (d1, g.2)) (st' := []) rfl rfl rfl rfl ?_
  refine zs_aload_n B dX0_giveKey_16 (i := 0) rfl rfl ?_
  refine zs_get B fX0_giveKey_18 rfl rfl dX0_giveKey_17 ?_
  refine zs_aload_n B dX0_giveKey_20 (i := 0) rfl rfl ?_
  refine zs_get B fX0_giveKey_18 rfl rfl dX0_giveKey_21 ?_
  refine zs_iload_n B dX0_giveKey_24 (i := 1) rfl rfl ?_
  refine zs_callV (n := 1) [4, 5, 6] B (zr_find hl D dA g.2.1 S.2.1 hR.2.1 key) gX0_giveKey_X2_find rfl ⟨rfl, by decide, by decide, by decide +kernel⟩ rfl (by rfl) rfl rfl rfl (by rfl) ⟨(by exact Nat.le_of_ble_eq_true rfl), (by exact Nat.le_of_ble_eq_true rfl)⟩ (by exact Nat.le_of_ble_eq_true rfl) ⟨(by exact Nat.le_of_ble_eq_true rfl), (by exact Nat.le_of_ble_eq_true rfl)⟩ dX0_giveKey_25 (by rintro v w ⟨rfl, rfl⟩; rfl) (fun _ _ h => h.elim) (fun _ _ h => h.elim) ?_
  rintro v w ⟨rfl, rfl⟩
  refine zs_eq (wl' := zp_W 0 (d1, g.2)) (st' := [.int (zl_fi S.2.1 key), .ref 4]) rfl rfl rfl rfl ?_
  refine zs_iload_n B dX0_giveKey_28 (i := 2) rfl rfl ?_
  refine zs_callV (n := 2) [4, 5, 6] B (zr_give hl D dA g.2.1 S.2.1 hR.2.1 (zl_fi S.2.1 key) x) gX0_giveKey_X2_give rfl ⟨rfl, by decide, by decide, by decide +kernel⟩ rfl (by rfl) rfl rfl rfl (by rfl) ⟨(by exact Nat.le_of_ble_eq_true rfl), (by exact Nat.le_of_ble_eq_true rfl)⟩ (by exact Nat.le_of_ble_eq_true rfl) ⟨(by exact Nat.le_of_ble_eq_true rfl), (by exact Nat.le_of_ble_eq_true rfl)⟩ dX0_giveKey_29 (by rintro v w ⟨rfl, d9, h9, rfl⟩; rfl) (fun _ _ h => h.elim) (fun _ _ h => h.elim) ?_
  rintro v w ⟨rfl, d2, hd2, rfl⟩
  refine zs_eq (wl' := zp_W 0 (d1, d2, g.2.2)) (st' := []) rfl rfl rfl rfl ?_
  exact zs_vret hA B rfl (by decide) (by decide) ⟨rfl, (d1, d2, g.2.2), ⟨hd1, hd2, hR.2.2⟩, rfl⟩ dX0_giveKey_32
set_option maxHeartbeats 4000000 in
theorem zp_touchM {l : Launch} (hl : l.stackTraces = false) (D : va_G) (dA : Nat → ClassId) (g : zp_D) (S : zp_L) (hR : zp_R S g) (key : Int32) : zw_Sp l D dA yX0_touch wsX0_touch 3 0 0 [.ref 0, .int key] (zp_W 0 g) (fun v w => v = none ∧ ∃ g', zp_R (zp_touch S key) g' ∧ w = zp_W 0 g') (fun _ _ => False) := by
  refine zw_start hl (by decide) rfl rfl (Nat.le_of_ble_eq_true rfl) ?_
  intro pr e s m args below meth c ad A hA B
  refine zs_aload_n B dX0_touch_0 (i := 0) rfl rfl ?_
  refine zs_get B fX0_touch_18 rfl rfl dX0_touch_1 ?_
  refine zs_aload_n B dX0_touch_4 (i := 0) rfl rfl ?_
  refine zs_get B fX0_touch_18 rfl rfl dX0_touch_5 ?_
  refine zs_iload_n B dX0_touch_8 (i := 1) rfl rfl ?_
  refine zs_callV (n := 1) [4, 5, 6] B (zr_find hl D dA g.2.1 S.2.1 hR.2.1 key) gX0_touch_X2_find rfl ⟨rfl, by decide, by decide, by decide +kernel⟩ rfl (by rfl) rfl rfl rfl (by rfl) ⟨(by exact Nat.le_of_ble_eq_true rfl), (by exact Nat.le_of_ble_eq_true rfl)⟩ (by exact Nat.le_of_ble_eq_true rfl) ⟨(by exact Nat.le_of_ble_eq_true rfl), (by exact Nat.le_of_ble_eq_true rfl)⟩ dX0_touch_9 (by rintro v w ⟨rfl, rfl⟩; rfl) (fun _ _ h => h.elim) (fun _ _ h => h.elim) ?_
  rintro v w ⟨rfl, rfl⟩
  refine zs_eq (wl' := zp_W 0 g) (st' := [.int (zl_fi S.2.1 key), .ref 4]) rfl rfl rfl rfl ?_
  refine zs_callV (n := 1) [4, 5, 6] B (zr_putLast hl D dA g.2.1 S.2.1 hR.2.1 (zl_fi S.2.1 key)) gX0_touch_X2_putLast rfl ⟨rfl, by decide, by decide, by decide +kernel⟩ rfl (by rfl) rfl rfl rfl (by rfl) ⟨(by exact Nat.le_of_ble_eq_true rfl), (by exact Nat.le_of_ble_eq_true rfl)⟩ (by exact Nat.le_of_ble_eq_true rfl) ⟨(by exact Nat.le_of_ble_eq_true rfl), (by exact Nat.le_of_ble_eq_true rfl)⟩ dX0_touch_12 (by rintro v w ⟨rfl, d9, h9, rfl⟩; rfl) (fun _ _ h => h.elim) (fun _ _ h => h.elim) ?_
  rintro v w ⟨rfl, d1, hd1, rfl⟩
  refine zs_eq (wl' := zp_W 0 (g.1, d1, g.2.2)) (st' := []) rfl rfl rfl rfl ?_
  exact zs_vret hA B rfl (by decide) (by decide) ⟨rfl, (g.1, d1, g.2.2), ⟨hR.1, hd1, hR.2.2⟩, rfl⟩ dX0_touch_15
set_option maxHeartbeats 4000000 in
theorem zp_takeOut {l : Launch} (hl : l.stackTraces = false) (D : va_G) (dA : Nat → ClassId) (g : zp_D) (S : zp_L) (hR : zp_R S g) (key : Int32) : zw_Sp l D dA yX0_takeOut wsX0_takeOut 3 0 0 [.ref 0, .int key] (zp_W 0 g) (fun v w => v = none ∧ ∃ g', zp_R (zp_take S key) g' ∧ w = zp_W 0 g') (fun _ _ => False) := by
  refine zw_start hl (by decide) rfl rfl (Nat.le_of_ble_eq_true rfl) ?_
  intro pr e s m args below meth c ad A hA B
  refine zs_aload_n B dX0_takeOut_0 (i := 0) rfl rfl ?_
  refine zs_get B fX0_takeOut_12 rfl rfl dX0_takeOut_1 ?_
  refine zs_aload_n B dX0_takeOut_4 (i := 0) rfl rfl ?_
  refine zs_get B fX0_takeOut_12 rfl rfl dX0_takeOut_5 ?_
  refine zs_iload_n B dX0_takeOut_8 (i := 1) rfl rfl ?_
  refine zs_callV (n := 1) [1, 2, 3] B (zr_find hl D dA g.1 S.1 hR.1 key) gX0_takeOut_X2_find rfl ⟨rfl, by decide, by decide, by decide +kernel⟩ rfl (by rfl) rfl rfl rfl (by rfl) ⟨(by exact Nat.le_of_ble_eq_true rfl), (by exact Nat.le_of_ble_eq_true rfl)⟩ (by exact Nat.le_of_ble_eq_true rfl) ⟨(by exact Nat.le_of_ble_eq_true rfl), (by exact Nat.le_of_ble_eq_true rfl)⟩ dX0_takeOut_9 (by rintro v w ⟨rfl, rfl⟩; rfl) (fun _ _ h => h.elim) (fun _ _ h => h.elim) ?_
  rintro v w ⟨rfl, rfl⟩
  refine zs_eq (wl' := zp_W 0 g) (st' := [.int (zl_fi S.1 key), .ref 1]) rfl rfl rfl rfl ?_
  refine zs_callV (n := 1) [1, 2, 3] B (zr_close hl D dA g.1 S.1 hR.1 (zl_fi S.1 key)) gX0_takeOut_X2_close rfl ⟨rfl, by decide, by decide, by decide +kernel⟩ rfl (by rfl) rfl rfl rfl (by rfl) ⟨(by exact Nat.le_of_ble_eq_true rfl), (by exact Nat.le_of_ble_eq_true rfl)⟩ (by exact Nat.le_of_ble_eq_true rfl) ⟨(by exact Nat.le_of_ble_eq_true rfl), (by exact Nat.le_of_ble_eq_true rfl)⟩ dX0_takeOut_12 (by rintro v w ⟨rfl, d9, h9, rfl⟩; rfl) (fun _ _ h => h.elim) (fun _ _ h => h.elim) ?_
  rintro v w ⟨rfl, d1, hd1, rfl⟩
  refine zs_eq (wl' := zp_W 0 (d1, g.2)) (st' := []) rfl rfl rfl rfl ?_
  refine zs_aload_n B dX0_takeOut_15 (i := 0) rfl rfl ?_
  refine zs_get B fX0_takeOut_18 rfl rfl dX0_takeOut_16 ?_
  refine zs_aload_n B dX0_takeOut_19 (i := 0) rfl rfl ?_
  refine zs_get B fX0_takeOut_18 rfl rfl dX0_takeOut_20 ?_
  refine zs_iload_n B dX0_takeOut_23 (i := 1) rfl rfl ?_
  refine zs_callV (n := 1) [4, 5, 6] B (zr_find hl D dA g.2.1 S.2.1 hR.2.1 key) gX0_takeOut_X2_find rfl ⟨rfl, by decide, by decide, by decide +kernel⟩ rfl (by rfl) rfl rfl rfl (by rfl) ⟨(by exact Nat.le_of_ble_eq_true rfl), (by exact Nat.le_of_ble_eq_true rfl)⟩ (by exact Nat.le_of_ble_eq_true rfl) ⟨(by exact Nat.le_of_ble_eq_true rfl), (by exact Nat.le_of_ble_eq_true rfl)⟩ dX0_takeOut_24 (by rintro v w ⟨rfl, rfl⟩; rfl) (fun _ _ h => h.elim) (fun _ _ h => h.elim) ?_
  rintro v w ⟨rfl, rfl⟩
  refine zs_eq (wl' := zp_W 0 (d1, g.2)) (st' := [.int (zl_fi S.2.1 key), .ref 4]) rfl rfl rfl rfl ?_
  refine zs_callV (n := 1) [4, 5, 6] B (zr_close hl D dA g.2.1 S.2.1 hR.2.1 (zl_fi S.2.1 key)) gX0_takeOut_X2_close rfl ⟨rfl, by decide, by decide, by decide +kernel⟩ rfl (by rfl) rfl rfl rfl (by rfl) ⟨(by exact Nat.le_of_ble_eq_true rfl), (by exact Nat.le_of_ble_eq_true rfl)⟩ (by exact Nat.le_of_ble_eq_true rfl) ⟨(by exact Nat.le_of_ble_eq_true rfl), (by exact Nat.le_of_ble_eq_true rfl)⟩ dX0_takeOut_27 (by rintro v w ⟨rfl, d9, h9, rfl⟩; rfl) (fun _ _ h => h.elim) (fun _ _ h => h.elim) ?_
  rintro v w ⟨rfl, d2, hd2, rfl⟩
  refine zs_eq (wl' := zp_W 0 (d1, d2, g.2.2)) (st' := []) rfl rfl rfl rfl ?_
  exact zs_vret hA B rfl (by decide) (by decide) ⟨rfl, (d1, d2, g.2.2), ⟨hd1, hd2, hR.2.2⟩, rfl⟩ dX0_takeOut_30
set_option maxHeartbeats 4000000 in
theorem zp_dropEldest {l : Launch} (hl : l.stackTraces = false) (D : va_G) (dA : Nat → ClassId) (g : zp_D) (S : zp_L) (hR : zp_R S g) : zw_Sp l D dA yX0_dropEldest wsX0_dropEldest 4 0 0 [.ref 0] (zp_W 0 g) (fun v w => v = some (.int (zp_first S)) ∧ ∃ g', zp_R (zp_drop S) g' ∧ w = zp_W 0 g') (fun _ _ => False) := by
  refine zw_start hl (by decide) rfl rfl (Nat.le_of_ble_eq_true rfl) ?_
  intro pr e s m args below meth c ad A hA B
  refine zs_aload_n B dX0_dropEldest_0 (i := 0) rfl rfl ?_
  refine zs_aload_n B dX0_dropEldest_1 (i := 0) rfl rfl ?_
  refine zs_get B fX0_dropEldest_25 rfl rfl dX0_dropEldest_2 ?_
  refine zs_callV (n := 1) [0, 1, 2, 3, 4, 5, 6] B (zp_rowM hl D dA g g.2.2.2) gX0_dropEldest_X0_row rfl ⟨rfl, by decide, by decide, by decide +kernel⟩ rfl (by rfl) rfl rfl rfl (by rfl) ⟨(by exact Nat.le_of_ble_eq_true rfl), (by exact Nat.le_of_ble_eq_true rfl)⟩ (by exact Nat.le_of_ble_eq_true rfl) ⟨(by exact Nat.le_of_ble_eq_true rfl), (by exact Nat.le_of_ble_eq_true rfl)⟩ dX0_dropEldest_5 (by rintro v w ⟨rfl, rfl⟩; rfl) (fun _ _ h => h.elim) (fun _ _ h => h.elim) ?_
  rintro v w ⟨rfl, rfl⟩
  have hby : S.2.2.2 = g.2.2.2 := congrArg Prod.snd hR.2.2
  by_cases ho : g.2.2.2 = 97
  · rw [if_pos ho]
    refine zs_eq (wl' := zp_W 0 g) (st' := [.ref 4]) rfl rfl rfl rfl ?_
    refine zs_iconst (v := 0) B dX0_dropEldest_8 (by decide) ?_
    refine zs_callV (n := 1) [4, 5, 6] B (zr_keyIn hl D dA g.2.1 S.2.1 hR.2.1 0) gX0_dropEldest_X2_keyIn rfl ⟨rfl, by decide, by decide, by decide +kernel⟩ rfl (by rfl) rfl rfl rfl (by rfl) ⟨(by exact Nat.le_of_ble_eq_true rfl), (by exact Nat.le_of_ble_eq_true rfl)⟩ (by exact Nat.le_of_ble_eq_true rfl) ⟨(by exact Nat.le_of_ble_eq_true rfl), (by exact Nat.le_of_ble_eq_true rfl)⟩ dX0_dropEldest_9 (by rintro v w ⟨rfl, rfl⟩; rfl) (fun _ _ h => h.elim) (fun _ _ h => h.elim) ?_
    rintro v w ⟨rfl, rfl⟩
    have e1 : zl_key S.2.1 (zf_ix 0 S.2.1.length) = zp_first S := by unfold zp_first zp_row; rw [hby, if_pos ho]
    rw [e1]
    refine zs_eq (wl' := zp_W 0 g) (st' := [.int (zp_first S)]) rfl rfl rfl rfl ?_
    refine zs_istore_n B dX0_dropEldest_12 (i := 1) rfl (by decide) rfl ?_
    refine zs_aload_n B dX0_dropEldest_13 (i := 0) rfl rfl ?_
    refine zs_iload_n B dX0_dropEldest_14 (i := 1) rfl rfl ?_
    refine zs_callV (n := 1) [0, 1, 2, 3, 4, 5, 6] B (zp_takeOut hl D dA g S hR (zp_first S)) gX0_dropEldest_X0_takeOut rfl ⟨rfl, by decide, by decide, by decide +kernel⟩ rfl (by rfl) rfl rfl rfl (by rfl) ⟨(by exact Nat.le_of_ble_eq_true rfl), (by exact Nat.le_of_ble_eq_true rfl)⟩ (by exact Nat.le_of_ble_eq_true rfl) ⟨(by exact Nat.le_of_ble_eq_true rfl), (by exact Nat.le_of_ble_eq_true rfl)⟩ dX0_dropEldest_15 (by rintro v w ⟨rfl, d9, h9, rfl⟩; rfl) (fun _ _ h => h.elim) (fun _ _ h => h.elim) ?_
    rintro v w ⟨rfl, g1, hg1, rfl⟩
    refine zs_eq (wl' := zp_W 0 g1) (st' := []) rfl rfl rfl rfl ?_
    refine zs_iload_n B dX0_dropEldest_18 (i := 1) rfl rfl ?_
    exact zs_zret hA B rfl rfl (by decide) (by decide) ⟨rfl, g1, hg1, rfl⟩ dX0_dropEldest_19
  · rw [if_neg ho]
    refine zs_eq (wl' := zp_W 0 g) (st' := [.ref 1]) rfl rfl rfl rfl ?_
    refine zs_iconst (v := 0) B dX0_dropEldest_8 (by decide) ?_
    refine zs_callV (n := 1) [1, 2, 3] B (zr_keyIn hl D dA g.1 S.1 hR.1 0) gX0_dropEldest_X2_keyIn rfl ⟨rfl, by decide, by decide, by decide +kernel⟩ rfl (by rfl) rfl rfl rfl (by rfl) ⟨(by exact Nat.le_of_ble_eq_true rfl), (by exact Nat.le_of_ble_eq_true rfl)⟩ (by exact Nat.le_of_ble_eq_true rfl) ⟨(by exact Nat.le_of_ble_eq_true rfl), (by exact Nat.le_of_ble_eq_true rfl)⟩ dX0_dropEldest_9 (by rintro v w ⟨rfl, rfl⟩; rfl) (fun _ _ h => h.elim) (fun _ _ h => h.elim) ?_
    rintro v w ⟨rfl, rfl⟩
    have e1 : zl_key S.1 (zf_ix 0 S.1.length) = zp_first S := by unfold zp_first zp_row; rw [hby, if_neg ho]
    rw [e1]
    refine zs_eq (wl' := zp_W 0 g) (st' := [.int (zp_first S)]) rfl rfl rfl rfl ?_
    refine zs_istore_n B dX0_dropEldest_12 (i := 1) rfl (by decide) rfl ?_
    refine zs_aload_n B dX0_dropEldest_13 (i := 0) rfl rfl ?_
    refine zs_iload_n B dX0_dropEldest_14 (i := 1) rfl rfl ?_
    refine zs_callV (n := 1) [0, 1, 2, 3, 4, 5, 6] B (zp_takeOut hl D dA g S hR (zp_first S)) gX0_dropEldest_X0_takeOut rfl ⟨rfl, by decide, by decide, by decide +kernel⟩ rfl (by rfl) rfl rfl rfl (by rfl) ⟨(by exact Nat.le_of_ble_eq_true rfl), (by exact Nat.le_of_ble_eq_true rfl)⟩ (by exact Nat.le_of_ble_eq_true rfl) ⟨(by exact Nat.le_of_ble_eq_true rfl), (by exact Nat.le_of_ble_eq_true rfl)⟩ dX0_dropEldest_15 (by rintro v w ⟨rfl, d9, h9, rfl⟩; rfl) (fun _ _ h => h.elim) (fun _ _ h => h.elim) ?_
    rintro v w ⟨rfl, g1, hg1, rfl⟩
    refine zs_eq (wl' := zp_W 0 g1) (st' := []) rfl rfl rfl rfl ?_
    refine zs_iload_n B dX0_dropEldest_18 (i := 1) rfl rfl ?_
    exact zs_zret hA B rfl rfl (by decide) (by decide) ⟨rfl, g1, hg1, rfl⟩ dX0_dropEldest_19
set_option maxHeartbeats 4000000 in
theorem zp_letIn {l : Launch} (hl : l.stackTraces = false) (D : va_G) (dA : Nat → ClassId) (g : zp_D) (S : zp_L) (hR : zp_R S g) (mm : Nat) (hm : S.2.2.1 = nI mm) (hm12 : mm ≤ 12) (h1 : S.2.1.length = S.1.length) (h2 : (zp_drop S).1.length < 12) (h3 : (zp_drop S).2.1.length < 12) (key x : Int32) : zw_Sp l D dA yX0_letIn wsX0_letIn 5 0 0 [.ref 0, .int key, .int x] (zp_W 0 g) (fun v w => v = some (.int (if S.1.length < mm then -1 else zp_first S)) ∧ ∃ g', zp_R (zp_app (if S.1.length < mm then S else zp_drop S) key x) g' ∧ w = zp_W 0 g') (fun _ _ => False) := by
  refine zw_start hl (by decide) rfl rfl (Nat.le_of_ble_eq_true rfl) ?_
  intro pr e s m args below meth c ad A hA B
  have hmost : g.2.2.1 = nI mm := by rw [← hm]; exact (congrArg Prod.fst hR.2.2).symm
  have h12 := hR.1.len
  refine zs_aload_n B dX0_letIn_0 (i := 0) rfl rfl ?_
  refine zs_get B fX0_letIn_12 rfl rfl dX0_letIn_1 ?_
  refine zs_callV (n := 0) [1, 2, 3] B (zr_count hl D dA g.1) gX0_letIn_X2_count rfl ⟨rfl, by decide, by decide, by decide +kernel⟩ rfl (by rfl) rfl rfl rfl (by rfl) ⟨(by exact Nat.le_of_ble_eq_true rfl), (by exact Nat.le_of_ble_eq_true rfl)⟩ (by exact Nat.le_of_ble_eq_true rfl) ⟨(by exact Nat.le_of_ble_eq_true rfl), (by exact Nat.le_of_ble_eq_true rfl)⟩ dX0_letIn_4 (by rintro v w ⟨rfl, rfl⟩; rfl) (fun _ _ h => h.elim) (fun _ _ h => h.elim) ?_
  rintro v w ⟨rfl, rfl⟩
  refine zs_eq (wl' := zp_W 0 g) (st' := [.int (nI S.1.length)]) rfl rfl (by rw [← hR.1.1]; rfl) rfl ?_
  refine zs_aload_n B dX0_letIn_7 (i := 0) rfl rfl ?_
  refine zs_get B fX0_letIn_21 rfl rfl dX0_letIn_8 ?_
  rw [hmost]
  refine zs_icmp_ge (tgt := 18) B dX0_letIn_11 (by decide) (fun h => ?_) (fun h => ?_)
  · have h4 : ¬ S.1.length < mm := by have := (nI_leI (by omega) (by omega)).mp h; omega
    rw [if_neg h4, if_neg h4]
    refine zs_aload_n B dX0_letIn_18 (i := 0) rfl rfl ?_
    refine zs_callV (n := 0) [0, 1, 2, 3, 4, 5, 6] B (zp_dropEldest hl D dA g S hR) gX0_letIn_X0_dropEldest rfl ⟨rfl, by decide, by decide, by decide +kernel⟩ rfl (by rfl) rfl rfl rfl (by rfl) ⟨(by exact Nat.le_of_ble_eq_true rfl), (by exact Nat.le_of_ble_eq_true rfl)⟩ (by exact Nat.le_of_ble_eq_true rfl) ⟨(by exact Nat.le_of_ble_eq_true rfl), (by exact Nat.le_of_ble_eq_true rfl)⟩ dX0_letIn_19 (by rintro v w ⟨rfl, d9, h9, rfl⟩; rfl) (fun _ _ h => h.elim) (fun _ _ h => h.elim) ?_
    rintro v w ⟨rfl, g1, hg1, rfl⟩
    refine zs_eq (wl' := zp_W 0 g1) (st' := [.int (zp_first S)]) rfl rfl rfl rfl ?_
    refine zs_istore_n B dX0_letIn_22 (i := 3) rfl (by decide) rfl ?_
    refine zs_aload_n B dX0_letIn_23 (i := 0) rfl rfl ?_
    refine zs_get B fX0_letIn_12 rfl rfl dX0_letIn_24 ?_
    refine zs_iload_n B dX0_letIn_27 (i := 1) rfl rfl ?_
    refine zs_iload_n B dX0_letIn_28 (i := 2) rfl rfl ?_
    refine zs_callV (n := 2) [1, 2, 3] B (zr_append hl D dA g1.1 _ hg1.1 h2 key x) gX0_letIn_X2_append rfl ⟨rfl, by decide, by decide, by decide +kernel⟩ rfl (by rfl) rfl rfl rfl (by rfl) ⟨(by exact Nat.le_of_ble_eq_true rfl), (by exact Nat.le_of_ble_eq_true rfl)⟩ (by exact Nat.le_of_ble_eq_true rfl) ⟨(by exact Nat.le_of_ble_eq_true rfl), (by exact Nat.le_of_ble_eq_true rfl)⟩ dX0_letIn_29 (by rintro v w ⟨rfl, d9, h9, rfl⟩; rfl) (fun _ _ h => h.elim) (fun _ _ h => h.elim) ?_
    rintro v w ⟨rfl, d1, hd1, rfl⟩
    refine zs_eq (wl' := zp_W 0 (d1, g1.2)) (st' := []) rfl rfl rfl rfl ?_
    refine zs_aload_n B dX0_letIn_32 (i := 0) rfl rfl ?_
    refine zs_get B fX0_letIn_18 rfl rfl dX0_letIn_33 ?_
    refine zs_iload_n B dX0_letIn_36 (i := 1) rfl rfl ?_
    refine zs_iload_n B dX0_letIn_37 (i := 2) rfl rfl ?_
    refine zs_callV (n := 2) [4, 5, 6] B (zr_append hl D dA g1.2.1 _ hg1.2.1 h3 key x) gX0_letIn_X2_append rfl ⟨rfl, by decide, by decide, by decide +kernel⟩ rfl (by rfl) rfl rfl rfl (by rfl) ⟨(by exact Nat.le_of_ble_eq_true rfl), (by exact Nat.le_of_ble_eq_true rfl)⟩ (by exact Nat.le_of_ble_eq_true rfl) ⟨(by exact Nat.le_of_ble_eq_true rfl), (by exact Nat.le_of_ble_eq_true rfl)⟩ dX0_letIn_38 (by rintro v w ⟨rfl, d9, h9, rfl⟩; rfl) (fun _ _ h => h.elim) (fun _ _ h => h.elim) ?_
    rintro v w ⟨rfl, d2, hd2, rfl⟩
    refine zs_eq (wl' := zp_W 0 (d1, d2, g1.2.2)) (st' := []) rfl rfl rfl rfl ?_
    refine zs_iload_n B dX0_letIn_41 (i := 3) rfl rfl ?_
    exact zs_zret hA B rfl rfl (by decide) (by decide) ⟨rfl, (d1, d2, g1.2.2), ⟨hd1, hd2, hg1.2.2⟩, rfl⟩ dX0_letIn_42
  · have h4 : S.1.length < mm := by
      rcases Nat.lt_or_ge S.1.length mm with q | q
      · exact q
      · exact absurd (nI_le q (by omega)) h
    rw [if_pos h4, if_pos h4]
    refine zs_iconst (v := (-1)) B dX0_letIn_14 (by decide) ?_
    refine zs_goto (tgt := 22) B dX0_letIn_15 (by decide) ?_
    refine zs_istore_n B dX0_letIn_22 (i := 3) rfl (by decide) rfl ?_
    refine zs_aload_n B dX0_letIn_23 (i := 0) rfl rfl ?_
    refine zs_get B fX0_letIn_12 rfl rfl dX0_letIn_24 ?_
    refine zs_iload_n B dX0_letIn_27 (i := 1) rfl rfl ?_
    refine zs_iload_n B dX0_letIn_28 (i := 2) rfl rfl ?_
    refine zs_callV (n := 2) [1, 2, 3] B (zr_append hl D dA g.1 _ hR.1 (by omega) key x) gX0_letIn_X2_append rfl ⟨rfl, by decide, by decide, by decide +kernel⟩ rfl (by rfl) rfl rfl rfl (by rfl) ⟨(by exact Nat.le_of_ble_eq_true rfl), (by exact Nat.le_of_ble_eq_true rfl)⟩ (by exact Nat.le_of_ble_eq_true rfl) ⟨(by exact Nat.le_of_ble_eq_true rfl), (by exact Nat.le_of_ble_eq_true rfl)⟩ dX0_letIn_29 (by rintro v w ⟨rfl, d9, h9, rfl⟩; rfl) (fun _ _ h => h.elim) (fun _ _ h => h.elim) ?_
    rintro v w ⟨rfl, d1, hd1, rfl⟩
    refine zs_eq (wl' := zp_W 0 (d1, g.2)) (st' := []) rfl rfl rfl rfl ?_
    refine zs_aload_n B dX0_letIn_32 (i := 0) rfl rfl ?_
    refine zs_get B fX0_letIn_18 rfl rfl dX0_letIn_33 ?_
    refine zs_iload_n B dX0_letIn_36 (i := 1) rfl rfl ?_
    refine zs_iload_n B dX0_letIn_37 (i := 2) rfl rfl ?_
    refine zs_callV (n := 2) [4, 5, 6] B (zr_append hl D dA g.2.1 _ hR.2.1 (by omega) key x) gX0_letIn_X2_append rfl ⟨rfl, by decide, by decide, by decide +kernel⟩ rfl (by rfl) rfl rfl rfl (by rfl) ⟨(by exact Nat.le_of_ble_eq_true rfl), (by exact Nat.le_of_ble_eq_true rfl)⟩ (by exact Nat.le_of_ble_eq_true rfl) ⟨(by exact Nat.le_of_ble_eq_true rfl), (by exact Nat.le_of_ble_eq_true rfl)⟩ dX0_letIn_38 (by rintro v w ⟨rfl, d9, h9, rfl⟩; rfl) (fun _ _ h => h.elim) (fun _ _ h => h.elim) ?_
    rintro v w ⟨rfl, d2, hd2, rfl⟩
    refine zs_eq (wl' := zp_W 0 (d1, d2, g.2.2)) (st' := []) rfl rfl rfl rfl ?_
    refine zs_iload_n B dX0_letIn_41 (i := 3) rfl rfl ?_
    exact zs_zret hA B rfl rfl (by decide) (by decide) ⟨rfl, (d1, d2, g.2.2), ⟨hd1, hd2, hR.2.2⟩, rfl⟩ dX0_letIn_42
end
section
/-! the class Page: its loops -/
section ZMx
variable {p : Program} {l : Launch} {e : Env} {R : Room} {s : State} {m : MethodId} {args : Array Value} {below : List Frame} {meth : Method} {c : Code} {Q : State → Prop} {cc : ByteArray} {nL : Nat} {ret : Option FieldType} {own nm : String} {Ts : List Cond} {tb : List ExceptionTableEntry} {D : va_G} {dA : Nat → ClassId} {A : Nat → Prop} {ad0 : Nat → Nat} {n0 cells slots pc : Nat} {wl : List zw_E} {lv : List (Option Value)} {st : List Value}
theorem zs_mmax {idx : Nat} {x y : Int32} (B : zw_B p l s m args meth c cc nL ret own nm Ts tb D dA A) (h1 : Cond.methodLink own idx Lib.Math.max.name ∈ Ts) (h2 : Cond.static Lib.Math.max.name ∈ Ts) (h3 : Cond.initialized "java/lang/Math" ∈ Ts) (h4 : Cond.code Lib.Math.max.name Lib.Math.max.code 2 (some .int) ∈ Ts)
    (hf : 1 ≤ R.frames) (hlo : 21 ≤ R.locals) (hst : (st.map fun v => v.category).sum ≤ 8) (hc : cells ≤ R.cells) (hs : slots ≤ R.slots) (hdg : decode cc pc = .ok (.invokestatic idx, 3))
    (kk : zw_k p l e R s m args below meth c Q D dA A ad0 n0 nL cells slots wl (pc + 3) lv (.int (if x < y then y else x) :: st)) : zw_k p l e R s m args below meth c Q D dA A ad0 n0 nL cells slots wl pc lv (.int y :: .int x :: st) := fun ad H locs ls a1 a2 a3 hP hD hS hl => by
  have hts := B.2.2.2.2.2.1
  refine va_mmax B.1 B.2.1 (B.2.2.2.1.trans hl.1.symm) B.2.2.2.2.1 (hts _ h1) (hts _ h2) (hts _ h3) (hts _ h4) hf ?_ hc hs hdg (kk ad H locs ls a1 a2 a3 hP hD hS hl)
  have e9 : ((st.map (zw_cv ad)).map fun v => v.category).sum = (st.map fun v => v.category).sum := by
    rw [List.map_map]
    rw [show ((fun v : Value => v.category) ∘ zw_cv ad) = fun v => v.category from funext fun v => zw_cv_cat ad v]
  rw [e9]
  omega
theorem zs_mmin {idx : Nat} {x y : Int32} (B : zw_B p l s m args meth c cc nL ret own nm Ts tb D dA A) (h1 : Cond.methodLink own idx Lib.Math.min.name ∈ Ts) (h2 : Cond.static Lib.Math.min.name ∈ Ts) (h3 : Cond.initialized "java/lang/Math" ∈ Ts) (h4 : Cond.code Lib.Math.min.name Lib.Math.min.code 2 (some .int) ∈ Ts)
    (hf : 1 ≤ R.frames) (hlo : 21 ≤ R.locals) (hst : (st.map fun v => v.category).sum ≤ 8) (hc : cells ≤ R.cells) (hs : slots ≤ R.slots) (hdg : decode cc pc = .ok (.invokestatic idx, 3))
    (kk : zw_k p l e R s m args below meth c Q D dA A ad0 n0 nL cells slots wl (pc + 3) lv (.int (if y < x then y else x) :: st)) : zw_k p l e R s m args below meth c Q D dA A ad0 n0 nL cells slots wl pc lv (.int y :: .int x :: st) := fun ad H locs ls a1 a2 a3 hP hD hS hl => by
  have hts := B.2.2.2.2.2.1
  refine va_mmin B.1 B.2.1 (B.2.2.2.1.trans hl.1.symm) B.2.2.2.2.1 (hts _ h1) (hts _ h2) (hts _ h3) (hts _ h4) hf ?_ hc hs hdg (kk ad H locs ls a1 a2 a3 hP hD hS hl)
  have e9 : ((st.map (zw_cv ad)).map fun v => v.category).sum = (st.map fun v => v.category).sum := by
    rw [List.map_map]
    rw [show ((fun v : Value => v.category) ∘ zw_cv ad) = fun v => v.category from funext fun v => zw_cv_cat ad v]
  rw [e9]
  omega
end ZMx
set_option maxHeartbeats 4000000 in
theorem zp_dropWhatIsOver {l : Launch} (hl : l.stackTraces = false) (D : va_G) (dA : Nat → ClassId) (g : zp_D) (S : zp_L) (hR : zp_R S g) (mm : Nat) (hm : S.2.2.1 = nI mm) (hm12 : mm ≤ 12) : zw_Sp l D dA yX0_dropWhatIsOver wsX0_dropWhatIsOver 5 0 0 [.ref 0] (zp_W 0 g) (fun v w => v = some (.int (nI (S.1.length - mm))) ∧ ∃ g', zp_R (zp_drops S (S.1.length - mm)) g' ∧ w = zp_W 0 g') (fun _ _ => False) := by
  refine zw_start hl (by decide) rfl rfl (Nat.le_of_ble_eq_true rfl) ?_
  intro pr e s m args below meth c ad A hA B
  have hmost : g.2.2.1 = nI mm := by rw [← hm]; exact (congrArg Prod.fst hR.2.2).symm
  have h12 := hR.1.len
  refine zs_aload_n B dX0_dropWhatIsOver_0 (i := 0) rfl rfl ?_
  refine zs_get B fX0_dropWhatIsOver_12 rfl rfl dX0_dropWhatIsOver_1 ?_
  refine zs_callV (n := 0) [1, 2, 3] B (zr_count hl D dA g.1) gX0_dropWhatIsOver_X2_count rfl ⟨rfl, by decide, by decide, by decide +kernel⟩ rfl (by rfl) rfl rfl rfl (by rfl) ⟨(by exact Nat.le_of_ble_eq_true rfl), (by exact Nat.le_of_ble_eq_true rfl)⟩ (by exact Nat.le_of_ble_eq_true rfl) ⟨(by exact Nat.le_of_ble_eq_true rfl), (by exact Nat.le_of_ble_eq_true rfl)⟩ dX0_dropWhatIsOver_4 (by rintro v w ⟨rfl, rfl⟩; rfl) (fun _ _ h => h.elim) (fun _ _ h => h.elim) ?_
  rintro v w ⟨rfl, rfl⟩
  refine zs_eq (wl' := zp_W 0 g) (st' := [.int (nI S.1.length)]) rfl rfl (by rw [← hR.1.1]; rfl) rfl ?_
  refine zs_aload_n B dX0_dropWhatIsOver_7 (i := 0) rfl rfl ?_
  refine zs_get B fX0_dropWhatIsOver_21 rfl rfl dX0_dropWhatIsOver_8 ?_
  rw [hmost]
  refine zs_isub B dX0_dropWhatIsOver_11 ?_
  refine zs_iconst (v := 0) B dX0_dropWhatIsOver_12 (by decide) ?_
  refine zs_mmax B (by decide +kernel) (by decide +kernel) (by decide +kernel) (by decide +kernel) (Nat.le_of_ble_eq_true rfl) (Nat.le_of_ble_eq_true rfl) (Nat.le_of_ble_eq_true rfl) (Nat.le_refl _) (Nat.le_refl _) dX0_dropWhatIsOver_13 ?_
  have e0 : (if nI S.1.length - nI mm < 0 then (0 : Int32) else nI S.1.length - nI mm) = nI (S.1.length - mm) := by
    by_cases h : S.1.length < mm
    · rw [if_pos (pk_sneg (by omega) h), show S.1.length - mm = 0 by omega]; exact nI_0.symm
    · rw [pk_sub (by omega), if_neg (nI_pos (by omega))]
  rw [e0]
  refine zs_istore_n B dX0_dropWhatIsOver_16 (i := 1) rfl (by decide) rfl ?_
  refine zs_iconst (v := 0) B dX0_dropWhatIsOver_17 (by decide) ?_
  refine zs_istore_n B dX0_dropWhatIsOver_18 (i := 2) rfl (by decide) rfl ?_
  generalize hov : S.1.length - mm = ov
  have hov12 : ov ≤ 12 := by omega
  obtain ⟨S1, hS1⟩ : ∃ S1, S1 = S := ⟨_, rfl⟩
  obtain ⟨g1, hg1⟩ : ∃ g1, g1 = g := ⟨_, rfl⟩
  refine zs_eq (wl' := zp_W 0 g1) (lv' := [some (.ref 0), some (.int (nI ov)), some (.int (nI (zz 0)))]) (by rw [hg1]) rfl rfl rfl ?_
  have hR1 : zp_R S1 g1 := by rw [hS1, hg1]; exact hR
  obtain ⟨k, hk⟩ : ∃ k, k + zz 0 = ov := ⟨ov, rfl⟩
  have hfin : zp_drops S1 k = zp_drops S ov := by rw [hS1, show k = ov from hk]
  clear hS1 hg1 hmost hov hR hm e0
  generalize zz 0 = j at hk ⊢
  induction k generalizing j S1 g1 with
  | zero =>
    refine zs_iload_n B dX0_dropWhatIsOver_19 (i := 2) rfl rfl ?_
    refine zs_iload_n B dX0_dropWhatIsOver_20 (i := 1) rfl rfl ?_
    refine zs_icmp_ge (tgt := 35) B dX0_dropWhatIsOver_21 (by decide) (fun h => ?_) (fun h => ?_)
    · refine zs_iload_n B dX0_dropWhatIsOver_35 (i := 1) rfl rfl ?_
      exact zs_zret hA B rfl rfl (by decide) (by decide) ⟨rfl, g1, by rw [← hfin]; exact hR1, rfl⟩ dX0_dropWhatIsOver_36
    · exact absurd (nI_le (show ov ≤ j by omega) (by omega)) h
  | succ k ih =>
    refine zs_iload_n B dX0_dropWhatIsOver_19 (i := 2) rfl rfl ?_
    refine zs_iload_n B dX0_dropWhatIsOver_20 (i := 1) rfl rfl ?_
    refine zs_icmp_ge (tgt := 35) B dX0_dropWhatIsOver_21 (by decide) (fun h => ?_) (fun h => ?_)
    · exact absurd ((nI_leI (by omega) (by omega)).mp h) (by omega)
    · refine zs_aload_n B dX0_dropWhatIsOver_24 (i := 0) rfl rfl ?_
      refine zs_callV (n := 0) [0, 1, 2, 3, 4, 5, 6] B (zp_dropEldest hl D dA g1 S1 hR1) gX0_dropWhatIsOver_X0_dropEldest rfl ⟨rfl, by decide, by decide, by decide +kernel⟩ rfl (by rfl) rfl rfl rfl (by rfl) ⟨(by exact Nat.le_of_ble_eq_true rfl), (by exact Nat.le_of_ble_eq_true rfl)⟩ (by exact Nat.le_of_ble_eq_true rfl) ⟨(by exact Nat.le_of_ble_eq_true rfl), (by exact Nat.le_of_ble_eq_true rfl)⟩ dX0_dropWhatIsOver_25 (by rintro v w ⟨rfl, d9, h9, rfl⟩; rfl) (fun _ _ h => h.elim) (fun _ _ h => h.elim) ?_
      rintro v w ⟨rfl, g2, hg2, rfl⟩
      refine zs_eq (wl' := zp_W 0 g2) (st' := [.int (zp_first S1)]) rfl rfl rfl rfl ?_
      refine zs_pop B dX0_dropWhatIsOver_28 rfl ?_
      refine zs_iinc B dX0_dropWhatIsOver_29 (i := 2) rfl (nI_1 j) (by decide) rfl ?_
      refine zs_goto (tgt := 19) B dX0_dropWhatIsOver_32 (by decide) ?_
      exact ih _ _ hg2 hfin (j + 1) (by omega)
set_option maxHeartbeats 4000000 in
theorem zp_takeOutEach {l : Launch} (hl : l.stackTraces = false) (D : va_G) (dA : Nat → ClassId) (g : zp_D) (S : zp_L) (hR : zp_R S g) (o : Int32) (ee : Nat) (h1 : 1 ≤ ee) (he : ee ≤ 12) : zw_Sp l D dA yX0_takeOutEach wsX0_takeOutEach 4 0 0 [.ref 0, .int o, .int (nI ee)] (zp_W 0 g) (fun v w => v = some (.int (nI (S.1.length / ee))) ∧ ∃ g', zp_R (zp_each o ee (S.1.length / ee) S) g' ∧ w = zp_W 0 g') (fun _ _ => False) := by
  refine zw_start hl (by decide) rfl rfl (Nat.le_of_ble_eq_true rfl) ?_
  intro pr e s m args below meth c ad A hA B
  have h12 := hR.1.len
  have hq12 : S.1.length / ee ≤ 12 := Nat.le_trans (Nat.div_le_self _ _) h12
  have hqe : S.1.length / ee * ee ≤ 12 := Nat.le_trans (Nat.div_mul_le_self _ _) h12
  refine zs_iload_n B dX0_takeOutEach_0 (i := 2) rfl rfl ?_
  refine zs_iconst (v := 1) B dX0_takeOutEach_1 (by decide) ?_
  refine zs_icmp_ge (tgt := 7) B dX0_takeOutEach_2 (by decide) (fun h => ?_) (fun h => absurd (show nI 1 ≤ nI ee from nI_le h1 (by omega)) h)
  refine zs_aload_n B dX0_takeOutEach_7 (i := 0) rfl rfl ?_
  refine zs_get B fX0_takeOutEach_12 rfl rfl dX0_takeOutEach_8 ?_
  refine zs_callV (n := 0) [1, 2, 3] B (zr_count hl D dA g.1) gX0_takeOutEach_X2_count rfl ⟨rfl, by decide, by decide, by decide +kernel⟩ rfl (by rfl) rfl rfl rfl (by rfl) ⟨(by exact Nat.le_of_ble_eq_true rfl), (by exact Nat.le_of_ble_eq_true rfl)⟩ (by exact Nat.le_of_ble_eq_true rfl) ⟨(by exact Nat.le_of_ble_eq_true rfl), (by exact Nat.le_of_ble_eq_true rfl)⟩ dX0_takeOutEach_11 (by rintro v w ⟨rfl, rfl⟩; rfl) (fun _ _ h => h.elim) (fun _ _ h => h.elim) ?_
  rintro v w ⟨rfl, rfl⟩
  refine zs_eq (wl' := zp_W 0 g) (st' := [.int (nI S.1.length)]) rfl rfl (by rw [← hR.1.1]; rfl) rfl ?_
  refine zs_iload_n B dX0_takeOutEach_14 (i := 2) rfl rfl ?_
  refine zs_idiv B dX0_takeOutEach_15 (nI_ne0 (by omega) (by omega)) ?_
  rw [pk_div (by omega) (by omega) (by omega)]
  generalize hov : S.1.length / ee = ov at hq12 hqe ⊢
  refine zs_istore_n B dX0_takeOutEach_16 (i := 3) rfl (by decide) rfl ?_
  refine zs_iload_n B dX0_takeOutEach_17 (i := 3) rfl rfl ?_
  refine zs_istore B dX0_takeOutEach_18 (i := 4) (by decide) rfl ?_
  obtain ⟨S1, hS1⟩ : ∃ S1, S1 = S := ⟨_, rfl⟩
  obtain ⟨g1, hg1⟩ : ∃ g1, g1 = g := ⟨_, rfl⟩
  refine zs_eq (wl' := zp_W 0 g1) (lv' := [some (.ref 0), some (.int o), some (.int (nI ee)), some (.int (nI ov)), some (.int (nI (zz ov)))]) (by rw [hg1]) rfl rfl rfl ?_
  have hR1 : zp_R S1 g1 := by rw [hS1, hg1]; exact hR
  have hk : zz ov ≤ ov := Nat.le_refl _
  have hfin : zp_each o ee (zz ov) S1 = zp_each o ee ov S := by rw [hS1]; rfl
  clear hS1 hg1 hov hR
  generalize zz ov = t at hk hfin ⊢
  induction t generalizing S1 g1 with
  | zero =>
    refine zs_iload B dX0_takeOutEach_20 (i := 4) rfl ?_
    refine zs_iconst (v := 1) B dX0_takeOutEach_22 (by decide) ?_
    refine zs_icmp_lt (tgt := 50) B dX0_takeOutEach_23 (by decide) (fun h => ?_) (fun h => absurd (show nI 0 < nI 1 from nI_lt (by omega) (by omega)) h)
    refine zs_iload_n B dX0_takeOutEach_50 (i := 3) rfl rfl ?_
    exact zs_zret hA B rfl rfl (by decide) (by decide) ⟨rfl, g1, by rw [← hfin]; exact hR1, rfl⟩ dX0_takeOutEach_51
  | succ t ih =>
    refine zs_iload B dX0_takeOutEach_20 (i := 4) rfl ?_
    refine zs_iconst (v := 1) B dX0_takeOutEach_22 (by decide) ?_
    refine zs_icmp_lt (tgt := 50) B dX0_takeOutEach_23 (by decide) (fun h => absurd (show nI (t + 1) < nI 1 from h) (nI_nlt (by omega) (by omega))) (fun h => ?_)
    refine zs_aload_n B dX0_takeOutEach_26 (i := 0) rfl rfl ?_
    refine zs_aload_n B dX0_takeOutEach_27 (i := 0) rfl rfl ?_
    refine zs_iload_n B dX0_takeOutEach_28 (i := 1) rfl rfl ?_
    refine zs_callV (n := 1) [0, 1, 2, 3, 4, 5, 6] B (zp_rowM hl D dA g1 o) gX0_takeOutEach_X0_row rfl ⟨rfl, by decide, by decide, by decide +kernel⟩ rfl (by rfl) rfl rfl rfl (by rfl) ⟨(by exact Nat.le_of_ble_eq_true rfl), (by exact Nat.le_of_ble_eq_true rfl)⟩ (by exact Nat.le_of_ble_eq_true rfl) ⟨(by exact Nat.le_of_ble_eq_true rfl), (by exact Nat.le_of_ble_eq_true rfl)⟩ dX0_takeOutEach_29 (by rintro v w ⟨rfl, rfl⟩; rfl) (fun _ _ h => h.elim) (fun _ _ h => h.elim) ?_
    rintro v w ⟨rfl, rfl⟩
    have hte : (t + 1) * ee ≤ 12 := Nat.le_trans (Nat.mul_le_mul_right _ hk) hqe
    have hte1 : 1 ≤ (t + 1) * ee := Nat.mul_pos (by omega) (by omega)
    have e2 : nI ((t + 1) * ee) - 1 = nI ((t + 1) * ee - 1) := by
      obtain ⟨z, hz⟩ : ∃ z, (t + 1) * ee = z + 1 := ⟨(t + 1) * ee - 1, by omega⟩
      rw [hz]
      exact nI_pred z
    by_cases ho : o = 97
    · rw [if_pos ho]
      refine zs_eq (wl' := zp_W 0 g1) (st' := [.ref 4, .ref 0]) rfl rfl rfl rfl ?_
      refine zs_iload B dX0_takeOutEach_32 (i := 4) rfl ?_
      refine zs_iload_n B dX0_takeOutEach_34 (i := 2) rfl rfl ?_
      refine zs_imul B dX0_takeOutEach_35 ?_
      refine zs_iconst (v := 1) B dX0_takeOutEach_36 (by decide) ?_
      refine zs_isub B dX0_takeOutEach_37 ?_
      rw [pk_mul, e2]
      refine zs_callV (n := 1) [4, 5, 6] B (zr_keyIn hl D dA g1.2.1 S1.2.1 hR1.2.1 (nI ((t + 1) * ee - 1))) gX0_takeOutEach_X2_keyIn rfl ⟨rfl, by decide, by decide, by decide +kernel⟩ rfl (by rfl) rfl rfl rfl (by rfl) ⟨(by exact Nat.le_of_ble_eq_true rfl), (by exact Nat.le_of_ble_eq_true rfl)⟩ (by exact Nat.le_of_ble_eq_true rfl) ⟨(by exact Nat.le_of_ble_eq_true rfl), (by exact Nat.le_of_ble_eq_true rfl)⟩ dX0_takeOutEach_38 (by rintro v w ⟨rfl, rfl⟩; rfl) (fun _ _ h => h.elim) (fun _ _ h => h.elim) ?_
      rintro v w ⟨rfl, rfl⟩
      have e1 : zl_key S1.2.1 (zf_ix (nI ((t + 1) * ee - 1)) S1.2.1.length) = zl_key (zp_row S1 o) (zf_ix (nI ((t + 1) * ee - 1)) (zp_row S1 o).length) := by unfold zp_row; rw [if_pos ho]
      rw [e1]
      refine zs_eq (wl' := zp_W 0 g1) (st' := [.int (zl_key (zp_row S1 o) (zf_ix (nI ((t + 1) * ee - 1)) (zp_row S1 o).length)), .ref 0]) rfl rfl rfl rfl ?_
      refine zs_callV (n := 1) [0, 1, 2, 3, 4, 5, 6] B (zp_takeOut hl D dA g1 S1 hR1 (zl_key (zp_row S1 o) (zf_ix (nI ((t + 1) * ee - 1)) (zp_row S1 o).length))) gX0_takeOutEach_X0_takeOut rfl ⟨rfl, by decide, by decide, by decide +kernel⟩ rfl (by rfl) rfl rfl rfl (by rfl) ⟨(by exact Nat.le_of_ble_eq_true rfl), (by exact Nat.le_of_ble_eq_true rfl)⟩ (by exact Nat.le_of_ble_eq_true rfl) ⟨(by exact Nat.le_of_ble_eq_true rfl), (by exact Nat.le_of_ble_eq_true rfl)⟩ dX0_takeOutEach_41 (by rintro v w ⟨rfl, d9, h9, rfl⟩; rfl) (fun _ _ h => h.elim) (fun _ _ h => h.elim) ?_
      rintro v w ⟨rfl, g2, hg2, rfl⟩
      refine zs_eq (wl' := zp_W 0 g2) (st' := []) rfl rfl rfl rfl ?_
      refine zs_iinc B dX0_takeOutEach_44 (i := 4) rfl (pk_m1 t) (by decide) rfl ?_
      refine zs_goto (tgt := 20) B dX0_takeOutEach_47 (by decide) ?_
      exact ih _ _ hg2 (by omega) hfin
    · rw [if_neg ho]
      refine zs_eq (wl' := zp_W 0 g1) (st' := [.ref 1, .ref 0]) rfl rfl rfl rfl ?_
      refine zs_iload B dX0_takeOutEach_32 (i := 4) rfl ?_
      refine zs_iload_n B dX0_takeOutEach_34 (i := 2) rfl rfl ?_
      refine zs_imul B dX0_takeOutEach_35 ?_
      refine zs_iconst (v := 1) B dX0_takeOutEach_36 (by decide) ?_
      refine zs_isub B dX0_takeOutEach_37 ?_
      rw [pk_mul, e2]
      refine zs_callV (n := 1) [1, 2, 3] B (zr_keyIn hl D dA g1.1 S1.1 hR1.1 (nI ((t + 1) * ee - 1))) gX0_takeOutEach_X2_keyIn rfl ⟨rfl, by decide, by decide, by decide +kernel⟩ rfl (by rfl) rfl rfl rfl (by rfl) ⟨(by exact Nat.le_of_ble_eq_true rfl), (by exact Nat.le_of_ble_eq_true rfl)⟩ (by exact Nat.le_of_ble_eq_true rfl) ⟨(by exact Nat.le_of_ble_eq_true rfl), (by exact Nat.le_of_ble_eq_true rfl)⟩ dX0_takeOutEach_38 (by rintro v w ⟨rfl, rfl⟩; rfl) (fun _ _ h => h.elim) (fun _ _ h => h.elim) ?_
      rintro v w ⟨rfl, rfl⟩
      have e1 : zl_key S1.1 (zf_ix (nI ((t + 1) * ee - 1)) S1.1.length) = zl_key (zp_row S1 o) (zf_ix (nI ((t + 1) * ee - 1)) (zp_row S1 o).length) := by unfold zp_row; rw [if_neg ho]
      rw [e1]
      refine zs_eq (wl' := zp_W 0 g1) (st' := [.int (zl_key (zp_row S1 o) (zf_ix (nI ((t + 1) * ee - 1)) (zp_row S1 o).length)), .ref 0]) rfl rfl rfl rfl ?_
      refine zs_callV (n := 1) [0, 1, 2, 3, 4, 5, 6] B (zp_takeOut hl D dA g1 S1 hR1 (zl_key (zp_row S1 o) (zf_ix (nI ((t + 1) * ee - 1)) (zp_row S1 o).length))) gX0_takeOutEach_X0_takeOut rfl ⟨rfl, by decide, by decide, by decide +kernel⟩ rfl (by rfl) rfl rfl rfl (by rfl) ⟨(by exact Nat.le_of_ble_eq_true rfl), (by exact Nat.le_of_ble_eq_true rfl)⟩ (by exact Nat.le_of_ble_eq_true rfl) ⟨(by exact Nat.le_of_ble_eq_true rfl), (by exact Nat.le_of_ble_eq_true rfl)⟩ dX0_takeOutEach_41 (by rintro v w ⟨rfl, d9, h9, rfl⟩; rfl) (fun _ _ h => h.elim) (fun _ _ h => h.elim) ?_
      rintro v w ⟨rfl, g2, hg2, rfl⟩
      refine zs_eq (wl' := zp_W 0 g2) (st' := []) rfl rfl rfl rfl ?_
      refine zs_iinc B dX0_takeOutEach_44 (i := 4) rfl (pk_m1 t) (by decide) rfl ?_
      refine zs_goto (tgt := 20) B dX0_takeOutEach_47 (by decide) ?_
      exact ih _ _ hg2 (by omega) hfin
theorem zl_drop_s {L : zr_L} {j : Nat} {q : Int32 × Int32} (h : L[j]? = some q) : L.drop j = q :: L.drop (j + 1) := by
  have hj := (List.getElem?_eq_some_iff.mp h)
  rw [List.drop_eq_getElem_cons hj.1, hj.2]
set_option maxHeartbeats 4000000 in
theorem zp_staying {l : Launch} (hl : l.stackTraces = false) (D : va_G) (dA : Nat → ClassId) (g : zp_D) (S : zp_L) (hR : zp_R S g) : zw_Sp l D dA yX0_staying wsX0_staying 3 0 0 [.ref 0] (zp_W 0 g) (fun v w => v = some (.int (nI (zl_stay S.1 S.2.1 (-1)))) ∧ w = zp_W 0 g) (fun _ _ => False) := by
  refine zw_start hl (by decide) rfl rfl (Nat.le_of_ble_eq_true rfl) ?_
  intro pr e s m args below meth c ad A hA B
  have h12 := hR.2.1.len
  refine zs_iconst (v := (-1)) B dX0_staying_0 (by decide) ?_
  refine zs_istore_n B dX0_staying_1 (i := 1) rfl (by decide) rfl ?_
  refine zs_iconst (v := 0) B dX0_staying_2 (by decide) ?_
  refine zs_istore_n B dX0_staying_3 (i := 2) rfl (by decide) rfl ?_
  obtain ⟨last, hlast⟩ : ∃ last : Int32, last = -1 := ⟨_, rfl⟩
  obtain ⟨o9, ho9⟩ : ∃ o : Option Value, o = none := ⟨_, rfl⟩
  refine zs_eq (wl' := zp_W 0 g) (lv' := [some (.ref 0), some (.int last), some (.int (nI (zz 0))), o9]) rfl (by rw [hlast, ho9]; rfl) rfl rfl ?_
  have hfin : zz 0 + zl_stay S.1 (S.2.1.drop (zz 0)) last = zl_stay S.1 S.2.1 (-1) := by rw [hlast]; show 0 + zl_stay S.1 (S.2.1.drop 0) (-1) = _; rw [List.drop_zero]; omega
  obtain ⟨k, hk⟩ : ∃ k, k + zz 0 = S.2.1.length := ⟨S.2.1.length, rfl⟩
  clear hlast ho9
  generalize zz 0 = j at hk hfin ⊢
  induction k generalizing j last o9 with
  | zero =>
    refine zs_iload_n B dX0_staying_4 (i := 2) rfl rfl ?_
    refine zs_aload_n B dX0_staying_5 (i := 0) rfl rfl ?_
    refine zs_get B fX0_staying_18 rfl rfl dX0_staying_6 ?_
    refine zs_callV (n := 0) [4, 5, 6] B (zr_count hl D dA g.2.1) gX0_staying_X2_count rfl ⟨rfl, by decide, by decide, by decide +kernel⟩ rfl (by rfl) rfl rfl rfl (by rfl) ⟨(by exact Nat.le_of_ble_eq_true rfl), (by exact Nat.le_of_ble_eq_true rfl)⟩ (by exact Nat.le_of_ble_eq_true rfl) ⟨(by exact Nat.le_of_ble_eq_true rfl), (by exact Nat.le_of_ble_eq_true rfl)⟩ dX0_staying_9 (by rintro v w ⟨rfl, rfl⟩; rfl) (fun _ _ h => h.elim) (fun _ _ h => h.elim) ?_
    rintro v w ⟨rfl, rfl⟩
    refine zs_eq (wl' := zp_W 0 g) (st' := [.int (nI S.2.1.length), .int (nI j)]) rfl rfl (by rw [← hR.2.1.1]; rfl) rfl ?_
    refine zs_icmp_ge (tgt := 46) B dX0_staying_12 (by decide) (fun h => ?_) (fun h => absurd (nI_le (show S.2.1.length ≤ j by omega) (by omega)) h)
    refine zs_aload_n B dX0_staying_46 (i := 0) rfl rfl ?_
    refine zs_get B fX0_staying_18 rfl rfl dX0_staying_47 ?_
    refine zs_callV (n := 0) [4, 5, 6] B (zr_count hl D dA g.2.1) gX0_staying_X2_count rfl ⟨rfl, by decide, by decide, by decide +kernel⟩ rfl (by rfl) rfl rfl rfl (by rfl) ⟨(by exact Nat.le_of_ble_eq_true rfl), (by exact Nat.le_of_ble_eq_true rfl)⟩ (by exact Nat.le_of_ble_eq_true rfl) ⟨(by exact Nat.le_of_ble_eq_true rfl), (by exact Nat.le_of_ble_eq_true rfl)⟩ dX0_staying_50 (by rintro v w ⟨rfl, rfl⟩; rfl) (fun _ _ h => h.elim) (fun _ _ h => h.elim) ?_
    rintro v w ⟨rfl, rfl⟩
    refine zs_zret hA B rfl rfl (by decide) (by decide) ⟨?_, rfl⟩ dX0_staying_53
    rw [List.drop_eq_nil_of_le (by omega)] at hfin
    rw [← hfin, hR.2.1.1]
    show some (Value.int (nI S.2.1.length)) = some (Value.int (nI (j + 0)))
    rw [show j + 0 = S.2.1.length by omega]
  | succ k ih =>
    refine zs_iload_n B dX0_staying_4 (i := 2) rfl rfl ?_
    refine zs_aload_n B dX0_staying_5 (i := 0) rfl rfl ?_
    refine zs_get B fX0_staying_18 rfl rfl dX0_staying_6 ?_
    refine zs_callV (n := 0) [4, 5, 6] B (zr_count hl D dA g.2.1) gX0_staying_X2_count rfl ⟨rfl, by decide, by decide, by decide +kernel⟩ rfl (by rfl) rfl rfl rfl (by rfl) ⟨(by exact Nat.le_of_ble_eq_true rfl), (by exact Nat.le_of_ble_eq_true rfl)⟩ (by exact Nat.le_of_ble_eq_true rfl) ⟨(by exact Nat.le_of_ble_eq_true rfl), (by exact Nat.le_of_ble_eq_true rfl)⟩ dX0_staying_9 (by rintro v w ⟨rfl, rfl⟩; rfl) (fun _ _ h => h.elim) (fun _ _ h => h.elim) ?_
    rintro v w ⟨rfl, rfl⟩
    refine zs_eq (wl' := zp_W 0 g) (st' := [.int (nI S.2.1.length), .int (nI j)]) rfl rfl (by rw [← hR.2.1.1]; rfl) rfl ?_
    refine zs_icmp_ge (tgt := 46) B dX0_staying_12 (by decide) (fun h => absurd ((nI_leI (by omega) (by omega)).mp h) (by omega)) (fun h => ?_)
    obtain ⟨r, hr, -, -⟩ := hR.2.1.at (i := j) (by rw [hR.2.1.1]; omega)
    refine zs_aload_n B dX0_staying_15 (i := 0) rfl rfl ?_
    refine zs_get B fX0_staying_12 rfl rfl dX0_staying_16 ?_
    refine zs_aload_n B dX0_staying_19 (i := 0) rfl rfl ?_
    refine zs_get B fX0_staying_18 rfl rfl dX0_staying_20 ?_
    refine zs_iload_n B dX0_staying_23 (i := 2) rfl rfl ?_
    refine zs_callV (n := 1) [4, 5, 6] B (zr_keyIn hl D dA g.2.1 S.2.1 hR.2.1 (nI j)) gX0_staying_X2_keyIn rfl ⟨rfl, by decide, by decide, by decide +kernel⟩ rfl (by rfl) rfl rfl rfl (by rfl) ⟨(by exact Nat.le_of_ble_eq_true rfl), (by exact Nat.le_of_ble_eq_true rfl)⟩ (by exact Nat.le_of_ble_eq_true rfl) ⟨(by exact Nat.le_of_ble_eq_true rfl), (by exact Nat.le_of_ble_eq_true rfl)⟩ dX0_staying_24 (by rintro v w ⟨rfl, rfl⟩; rfl) (fun _ _ h => h.elim) (fun _ _ h => h.elim) ?_
    rintro v w ⟨rfl, rfl⟩
    rw [zl_key_at h12 hr]
    refine zs_eq (wl' := zp_W 0 g) (st' := [.int r.1, .ref 1]) rfl rfl rfl rfl ?_
    refine zs_callV (n := 1) [1, 2, 3] B (zr_find hl D dA g.1 S.1 hR.1 r.1) gX0_staying_X2_find rfl ⟨rfl, by decide, by decide, by decide +kernel⟩ rfl (by rfl) rfl rfl rfl (by rfl) ⟨(by exact Nat.le_of_ble_eq_true rfl), (by exact Nat.le_of_ble_eq_true rfl)⟩ (by exact Nat.le_of_ble_eq_true rfl) ⟨(by exact Nat.le_of_ble_eq_true rfl), (by exact Nat.le_of_ble_eq_true rfl)⟩ dX0_staying_27 (by rintro v w ⟨rfl, rfl⟩; rfl) (fun _ _ h => h.elim) (fun _ _ h => h.elim) ?_
    rintro v w ⟨rfl, rfl⟩
    refine zs_eq (wl' := zp_W 0 g) (st' := [.int (zl_fi S.1 r.1)]) rfl rfl rfl rfl ?_
    rw [zl_drop_s hr] at hfin
    refine zs_istore_n B dX0_staying_30 (i := 3) rfl (by decide) rfl ?_
    refine zs_iload_n B dX0_staying_31 (i := 3) rfl rfl ?_
    refine zs_iload_n B dX0_staying_32 (i := 1) rfl rfl ?_
    refine zs_icmp_ge (tgt := 38) B dX0_staying_33 (by decide) (fun h2 => ?_) (fun h2 => ?_)
    · have h3 : ¬ zl_fi S.1 r.1 < last := by rw [Int32.lt_iff_toInt_lt]; have := Int32.le_iff_toInt_le.mp h2; omega
      refine zs_iload_n B dX0_staying_38 (i := 3) rfl rfl ?_
      refine zs_istore_n B dX0_staying_39 (i := 1) rfl (by decide) rfl ?_
      refine zs_iinc B dX0_staying_40 (i := 2) rfl (nI_1 j) (by decide) rfl ?_
      refine zs_goto (tgt := 4) B dX0_staying_43 (by decide) ?_
      refine ih (zl_fi S.1 r.1) (some (.int (zl_fi S.1 r.1))) (j + 1) (by omega) ?_
      rw [← hfin]
      show _ = j + (if zl_fi S.1 r.1 < last then 0 else zl_stay S.1 (S.2.1.drop (j + 1)) (zl_fi S.1 r.1) + 1)
      rw [if_neg h3]
      omega
    · have h3 : zl_fi S.1 r.1 < last := by rw [Int32.lt_iff_toInt_lt]; rw [Int32.le_iff_toInt_le] at h2; omega
      refine zs_iload_n B dX0_staying_36 (i := 2) rfl rfl ?_
      refine zs_zret hA B rfl rfl (by decide) (by decide) ⟨?_, rfl⟩ dX0_staying_37
      rw [← hfin]
      show _ = some (Value.int (nI (j + (if zl_fi S.1 r.1 < last then 0 else zl_stay S.1 (S.2.1.drop (j + 1)) (zl_fi S.1 r.1) + 1))))
      rw [if_pos h3]
      rfl
theorem zl_at_some {L : zr_L} {j : Nat} {q : Int32 × Int32} (h : L[j]? = some q) : zl_at L j = q.1 := by
  unfold zl_at zl_key
  rw [Option.bind_some, h]
theorem zl_cr1_le (C A : zr_L) (x : Int32) : ∀ m, zl_cr1 C A x m ≤ m
  | 0 => Nat.le_refl _
  | m + 1 => by
    have := zl_cr1_le C A x m
    show zl_cr1 C A x m + (if x < zl_fi C (zl_at A m) then 1 else 0) ≤ m + 1
    split <;> omega
theorem zl_cr_le (C A : zr_L) : ∀ m, zl_cr C A m ≤ m * m
  | 0 => Nat.le_refl _
  | m + 1 => by
    have h1 := zl_cr_le C A m
    have h2 := zl_cr1_le C A (zl_fi C (zl_at A m)) m
    show zl_cr C A m + zl_cr1 C A (zl_fi C (zl_at A m)) m ≤ (m + 1) * (m + 1)
    have : (m + 1) * (m + 1) = m * m + m + m + 1 := by rw [Nat.add_mul, Nat.mul_add]; omega
    omega
set_option maxHeartbeats 8000000 in
theorem zp_crossedPairs {l : Launch} (hl : l.stackTraces = false) (D : va_G) (dA : Nat → ClassId) (g : zp_D) (S : zp_L) (hR : zp_R S g) : zw_Sp l D dA yX0_crossedPairs wsX0_crossedPairs 3 0 0 [.ref 0] (zp_W 0 g) (fun v w => v = some (.int (nI (zl_cr S.1 S.2.1 S.2.1.length))) ∧ w = zp_W 0 g) (fun _ _ => False) := by
  refine zw_start hl (by decide) rfl rfl (Nat.le_of_ble_eq_true rfl) ?_
  intro pr e s m args below meth c ad A hA B
  have h12 := hR.2.1.len
  refine zs_iconst (v := 0) B dX0_crossedPairs_0 (by decide) ?_
  refine zs_istore_n B dX0_crossedPairs_1 (i := 1) rfl (by decide) rfl ?_
  refine zs_iconst (v := 1) B dX0_crossedPairs_2 (by decide) ?_
  refine zs_istore_n B dX0_crossedPairs_3 (i := 2) rfl (by decide) rfl ?_
  obtain ⟨o3, ho3⟩ : ∃ o : Option Value, o = none := ⟨_, rfl⟩
  obtain ⟨o4, ho4⟩ : ∃ o : Option Value, o = none := ⟨_, rfl⟩
  obtain ⟨cnt, hcnt⟩ : ∃ cnt : Nat, cnt = zl_cr S.1 S.2.1 (zz 1) := ⟨_, rfl⟩
  have hc1 : zl_cr S.1 S.2.1 1 = 0 := rfl
  refine zs_eq (wl' := zp_W 0 g) (lv' := [some (.ref 0), some (.int (nI cnt)), some (.int (nI (zz 1))), o3, o4]) rfl (by rw [hcnt, ho3, ho4]; rfl) rfl rfl ?_
  obtain ⟨M, hM0, hM1⟩ : ∃ M : Nat, (S.2.1.length = 0 → M = 1) ∧ (1 ≤ S.2.1.length → M = S.2.1.length) := by
    by_cases h : S.2.1.length = 0
    · exact ⟨1, fun _ => rfl, fun h1 => by omega⟩
    · exact ⟨S.2.1.length, fun h1 => absurd h1 h, fun _ => rfl⟩
  have hMM : zl_cr S.1 S.2.1 M = zl_cr S.1 S.2.1 S.2.1.length := by
    by_cases h : S.2.1.length = 0
    · rw [hM0 h, h]; exact hc1
    · rw [hM1 (by omega)]
  have hM9 : 1 ≤ M := by
    by_cases h : S.2.1.length = 0
    · rw [hM0 h]; exact Nat.le_refl _
    · have := hM1 (by omega)
      omega
  obtain ⟨k, hk⟩ : ∃ k, k + zz 1 = M := ⟨M - 1, Nat.sub_add_cancel hM9⟩
  have hj1 : 1 ≤ zz 1 := Nat.le_refl _
  clear ho3 ho4
  generalize zz 1 = j at hk hcnt hj1 ⊢
  induction k generalizing j cnt o3 o4 with
  | zero =>
    refine zs_iload_n B dX0_crossedPairs_4 (i := 2) rfl rfl ?_
    refine zs_aload_n B dX0_crossedPairs_5 (i := 0) rfl rfl ?_
    refine zs_get B fX0_crossedPairs_18 rfl rfl dX0_crossedPairs_6 ?_
    refine zs_callV (n := 0) [4, 5, 6] B (zr_count hl D dA g.2.1) gX0_crossedPairs_X2_count rfl ⟨rfl, by decide, by decide, by decide +kernel⟩ rfl (by rfl) rfl rfl rfl (by rfl) ⟨(by exact Nat.le_of_ble_eq_true rfl), (by exact Nat.le_of_ble_eq_true rfl)⟩ (by exact Nat.le_of_ble_eq_true rfl) ⟨(by exact Nat.le_of_ble_eq_true rfl), (by exact Nat.le_of_ble_eq_true rfl)⟩ dX0_crossedPairs_9 (by rintro v w ⟨rfl, rfl⟩; rfl) (fun _ _ h => h.elim) (fun _ _ h => h.elim) ?_
    rintro v w ⟨rfl, rfl⟩
    refine zs_eq (wl' := zp_W 0 g) (st' := [.int (nI S.2.1.length), .int (nI j)]) rfl rfl (by rw [← hR.2.1.1]; rfl) rfl ?_
    have hnj : S.2.1.length ≤ j := by
      by_cases h : S.2.1.length = 0
      · omega
      · have := hM1 (by omega); omega
    have hj13 : j ≤ 13 := by
      by_cases h : S.2.1.length = 0
      · have := hM0 h; omega
      · have := hM1 (by omega); omega
    refine zs_icmp_ge (tgt := 75) B dX0_crossedPairs_12 (by decide) (fun h => ?_) (fun h => absurd (nI_le hnj (by omega)) h)
    refine zs_iload_n B dX0_crossedPairs_75 (i := 1) rfl rfl ?_
    refine zs_zret hA B rfl rfl (by decide) (by decide) ⟨?_, rfl⟩ dX0_crossedPairs_76
    rw [hcnt, show j = M by omega, hMM]
  | succ k ih =>
    have hjn : j < S.2.1.length := by
      by_cases h : S.2.1.length = 0
      · have := hM0 h; omega
      · have := hM1 (by omega); omega
    refine zs_iload_n B dX0_crossedPairs_4 (i := 2) rfl rfl ?_
    refine zs_aload_n B dX0_crossedPairs_5 (i := 0) rfl rfl ?_
    refine zs_get B fX0_crossedPairs_18 rfl rfl dX0_crossedPairs_6 ?_
    refine zs_callV (n := 0) [4, 5, 6] B (zr_count hl D dA g.2.1) gX0_crossedPairs_X2_count rfl ⟨rfl, by decide, by decide, by decide +kernel⟩ rfl (by rfl) rfl rfl rfl (by rfl) ⟨(by exact Nat.le_of_ble_eq_true rfl), (by exact Nat.le_of_ble_eq_true rfl)⟩ (by exact Nat.le_of_ble_eq_true rfl) ⟨(by exact Nat.le_of_ble_eq_true rfl), (by exact Nat.le_of_ble_eq_true rfl)⟩ dX0_crossedPairs_9 (by rintro v w ⟨rfl, rfl⟩; rfl) (fun _ _ h => h.elim) (fun _ _ h => h.elim) ?_
    rintro v w ⟨rfl, rfl⟩
    refine zs_eq (wl' := zp_W 0 g) (st' := [.int (nI S.2.1.length), .int (nI j)]) rfl rfl (by rw [← hR.2.1.1]; rfl) rfl ?_
    refine zs_icmp_ge (tgt := 75) B dX0_crossedPairs_12 (by decide) (fun h => absurd ((nI_leI (by omega) (by omega)).mp h) (by omega)) (fun h => ?_)
    obtain ⟨r, hr, -, -⟩ := hR.2.1.at (i := j) (by rw [hR.2.1.1]; omega)
    refine zs_aload_n B dX0_crossedPairs_15 (i := 0) rfl rfl ?_
    refine zs_get B fX0_crossedPairs_12 rfl rfl dX0_crossedPairs_16 ?_
    refine zs_aload_n B dX0_crossedPairs_19 (i := 0) rfl rfl ?_
    refine zs_get B fX0_crossedPairs_18 rfl rfl dX0_crossedPairs_20 ?_
    refine zs_iload_n B dX0_crossedPairs_23 (i := 2) rfl rfl ?_
    refine zs_callV (n := 1) [4, 5, 6] B (zr_keyIn hl D dA g.2.1 S.2.1 hR.2.1 (nI j)) gX0_crossedPairs_X2_keyIn rfl ⟨rfl, by decide, by decide, by decide +kernel⟩ rfl (by rfl) rfl rfl rfl (by rfl) ⟨(by exact Nat.le_of_ble_eq_true rfl), (by exact Nat.le_of_ble_eq_true rfl)⟩ (by exact Nat.le_of_ble_eq_true rfl) ⟨(by exact Nat.le_of_ble_eq_true rfl), (by exact Nat.le_of_ble_eq_true rfl)⟩ dX0_crossedPairs_24 (by rintro v w ⟨rfl, rfl⟩; rfl) (fun _ _ h => h.elim) (fun _ _ h => h.elim) ?_
    rintro v w ⟨rfl, rfl⟩
    rw [zl_key_at h12 hr]
    refine zs_eq (wl' := zp_W 0 g) (st' := [.int r.1, .ref 1]) rfl rfl rfl rfl ?_
    refine zs_callV (n := 1) [1, 2, 3] B (zr_find hl D dA g.1 S.1 hR.1 r.1) gX0_crossedPairs_X2_find rfl ⟨rfl, by decide, by decide, by decide +kernel⟩ rfl (by rfl) rfl rfl rfl (by rfl) ⟨(by exact Nat.le_of_ble_eq_true rfl), (by exact Nat.le_of_ble_eq_true rfl)⟩ (by exact Nat.le_of_ble_eq_true rfl) ⟨(by exact Nat.le_of_ble_eq_true rfl), (by exact Nat.le_of_ble_eq_true rfl)⟩ dX0_crossedPairs_27 (by rintro v w ⟨rfl, rfl⟩; rfl) (fun _ _ h => h.elim) (fun _ _ h => h.elim) ?_
    rintro v w ⟨rfl, rfl⟩
    refine zs_eq (wl' := zp_W 0 g) (st' := [.int (zl_fi S.1 r.1)]) rfl rfl rfl rfl ?_
    refine zs_istore_n B dX0_crossedPairs_30 (i := 3) rfl (by decide) rfl ?_
    refine zs_iconst (v := 0) B dX0_crossedPairs_31 (by decide) ?_
    refine zs_istore B dX0_crossedPairs_32 (i := 4) (by decide) rfl ?_
    obtain ⟨x, hx⟩ : ∃ x, x = zl_fi S.1 r.1 := ⟨_, rfl⟩
    have hx2 : zl_cr S.1 S.2.1 (j + 1) = cnt + zl_cr1 S.1 S.2.1 x j := by
      rw [hcnt, hx, ← zl_at_some hr]
      rfl
    obtain ⟨c2, hc2⟩ : ∃ c2 : Nat, c2 = cnt + zl_cr1 S.1 S.2.1 x (zz 0) := ⟨_, rfl⟩
    refine zs_eq (wl' := zp_W 0 g) (lv' := [some (.ref 0), some (.int (nI c2)), some (.int (nI j)), some (.int x), some (.int (nI (zz 0)))]) rfl (by rw [hc2, hx]; rfl) rfl rfl ?_
    obtain ⟨k2, hk2⟩ : ∃ k2, k2 + zz 0 = j := ⟨j, rfl⟩
    generalize zz 0 = i at hk2 hc2 ⊢
    induction k2 generalizing i c2 with
    | zero =>
      refine zs_iload B dX0_crossedPairs_34 (i := 4) rfl ?_
      refine zs_iload_n B dX0_crossedPairs_36 (i := 2) rfl rfl ?_
      refine zs_icmp_ge (tgt := 69) B dX0_crossedPairs_37 (by decide) (fun h => ?_) (fun h => absurd (nI_le (show j ≤ i by omega) (by omega)) h)
      refine zs_iinc B dX0_crossedPairs_69 (i := 2) rfl (nI_1 j) (by decide) rfl ?_
      refine zs_goto (tgt := 4) B dX0_crossedPairs_72 (by decide) ?_
      exact ih (some (.int x)) (some (.int (nI i))) c2 (j + 1) (by omega) (by rw [hc2, hx2, show i = j by omega]) (by omega)
    | succ k2 ih2 =>
      refine zs_iload B dX0_crossedPairs_34 (i := 4) rfl ?_
      refine zs_iload_n B dX0_crossedPairs_36 (i := 2) rfl rfl ?_
      refine zs_icmp_ge (tgt := 69) B dX0_crossedPairs_37 (by decide) (fun h => absurd ((nI_leI (by omega) (by omega)).mp h) (by omega)) (fun h => ?_)
      obtain ⟨r2, hr2, -, -⟩ := hR.2.1.at (i := i) (by rw [hR.2.1.1]; omega)
      refine zs_aload_n B dX0_crossedPairs_40 (i := 0) rfl rfl ?_
      refine zs_get B fX0_crossedPairs_12 rfl rfl dX0_crossedPairs_41 ?_
      refine zs_aload_n B dX0_crossedPairs_44 (i := 0) rfl rfl ?_
      refine zs_get B fX0_crossedPairs_18 rfl rfl dX0_crossedPairs_45 ?_
      refine zs_iload B dX0_crossedPairs_48 (i := 4) rfl ?_
      refine zs_callV (n := 1) [4, 5, 6] B (zr_keyIn hl D dA g.2.1 S.2.1 hR.2.1 (nI i)) gX0_crossedPairs_X2_keyIn rfl ⟨rfl, by decide, by decide, by decide +kernel⟩ rfl (by rfl) rfl rfl rfl (by rfl) ⟨(by exact Nat.le_of_ble_eq_true rfl), (by exact Nat.le_of_ble_eq_true rfl)⟩ (by exact Nat.le_of_ble_eq_true rfl) ⟨(by exact Nat.le_of_ble_eq_true rfl), (by exact Nat.le_of_ble_eq_true rfl)⟩ dX0_crossedPairs_50 (by rintro v w ⟨rfl, rfl⟩; rfl) (fun _ _ h => h.elim) (fun _ _ h => h.elim) ?_
      rintro v w ⟨rfl, rfl⟩
      rw [zl_key_at h12 hr2]
      refine zs_eq (wl' := zp_W 0 g) (st' := [.int r2.1, .ref 1]) rfl rfl rfl rfl ?_
      refine zs_callV (n := 1) [1, 2, 3] B (zr_find hl D dA g.1 S.1 hR.1 r2.1) gX0_crossedPairs_X2_find rfl ⟨rfl, by decide, by decide, by decide +kernel⟩ rfl (by rfl) rfl rfl rfl (by rfl) ⟨(by exact Nat.le_of_ble_eq_true rfl), (by exact Nat.le_of_ble_eq_true rfl)⟩ (by exact Nat.le_of_ble_eq_true rfl) ⟨(by exact Nat.le_of_ble_eq_true rfl), (by exact Nat.le_of_ble_eq_true rfl)⟩ dX0_crossedPairs_53 (by rintro v w ⟨rfl, rfl⟩; rfl) (fun _ _ h => h.elim) (fun _ _ h => h.elim) ?_
      rintro v w ⟨rfl, rfl⟩
      refine zs_eq (wl' := zp_W 0 g) (st' := [.int (zl_fi S.1 r2.1)]) rfl rfl rfl rfl ?_
      refine zs_iload_n B dX0_crossedPairs_56 (i := 3) rfl rfl ?_
      have e3 : zl_cr1 S.1 S.2.1 x (i + 1) = zl_cr1 S.1 S.2.1 x i + (if x < zl_fi S.1 r2.1 then 1 else 0) := by
        rw [← zl_at_some hr2]
        rfl
      refine zs_icmp_le (tgt := 63) B dX0_crossedPairs_57 (by decide) (fun h3 => ?_) (fun h3 => ?_)
      · have h4 : ¬ x < zl_fi S.1 r2.1 := by rw [Int32.lt_iff_toInt_lt]; have := Int32.le_iff_toInt_le.mp h3; omega
        rw [if_neg h4] at e3
        refine zs_iinc B dX0_crossedPairs_63 (i := 4) rfl (nI_1 i) (by decide) rfl ?_
        refine zs_goto (tgt := 34) B dX0_crossedPairs_66 (by decide) ?_
        exact ih2 c2 (i + 1) (by omega) (by rw [e3, hc2, Nat.add_zero])
      · have h4 : x < zl_fi S.1 r2.1 := by rw [Int32.lt_iff_toInt_lt]; rw [Int32.le_iff_toInt_le] at h3; omega
        rw [if_pos h4] at e3
        refine zs_iinc B dX0_crossedPairs_60 (i := 1) rfl (nI_1 c2) (by decide) rfl ?_
        refine zs_iinc B dX0_crossedPairs_63 (i := 4) rfl (nI_1 i) (by decide) rfl ?_
        refine zs_goto (tgt := 34) B dX0_crossedPairs_66 (by decide) ?_
        exact ih2 (c2 + 1) (i + 1) (by omega) (by rw [e3, hc2]; omega)
set_option maxHeartbeats 4000000 in
theorem zp_become {l : Launch} (hl : l.stackTraces = false) (D : va_G) (dA : Nat → ClassId) (g0 g : zp_D) (S : zp_L) (hR : zp_R S g) (hby : narrow .char (.int g.2.2.2) = .int g.2.2.2 ∧ fits .char (.int g.2.2.2) = true) : zw_Sp l D dA yX0_become wsX0_become 3 0 0 [.ref 0, .ref 7] (zp_W 0 g0 ++ zp_W 7 g) (fun v w => v = none ∧ ∃ g', zp_R S g' ∧ w = zp_W 0 g' ++ zp_W 7 g) (fun _ _ => False) := by
  refine zw_start hl (by decide) rfl rfl (Nat.le_of_ble_eq_true rfl) ?_
  intro pr e s m args below meth c ad A hA B
  refine zs_aload_n B dX0_become_0 (i := 0) rfl rfl ?_
  refine zs_get B fX0_become_12 rfl rfl dX0_become_1 ?_
  refine zs_aload_n B dX0_become_4 (i := 1) rfl rfl ?_
  refine zs_get B fX0_become_12 rfl rfl dX0_become_5 ?_
  refine zs_callV (n := 1) [1, 2, 3, 8, 9, 10] B (zr_become hl D dA g.1 g0.1 S.1 hR.1) gX0_become_X2_become rfl ⟨rfl, by decide, by decide, by decide +kernel⟩ rfl (by rfl) rfl rfl rfl (by rfl) ⟨(by exact Nat.le_of_ble_eq_true rfl), (by exact Nat.le_of_ble_eq_true rfl)⟩ (by exact Nat.le_of_ble_eq_true rfl) ⟨(by exact Nat.le_of_ble_eq_true rfl), (by exact Nat.le_of_ble_eq_true rfl)⟩ dX0_become_8 (by rintro v w ⟨rfl, d9, h9, rfl⟩; rfl) (fun _ _ h => h.elim) (fun _ _ h => h.elim) ?_
  rintro v w ⟨rfl, d1, hd1, rfl⟩
  refine zs_eq (wl' := zp_W 0 (d1, g0.2) ++ zp_W 7 g) (st' := []) rfl rfl rfl rfl ?_
  refine zs_aload_n B dX0_become_11 (i := 0) rfl rfl ?_
  refine zs_get B fX0_become_18 rfl rfl dX0_become_12 ?_
  refine zs_aload_n B dX0_become_15 (i := 1) rfl rfl ?_
  refine zs_get B fX0_become_18 rfl rfl dX0_become_16 ?_
  refine zs_callV (n := 1) [4, 5, 6, 11, 12, 13] B (zr_become hl D dA g.2.1 g0.2.1 S.2.1 hR.2.1) gX0_become_X2_become rfl ⟨rfl, by decide, by decide, by decide +kernel⟩ rfl (by rfl) rfl rfl rfl (by rfl) ⟨(by exact Nat.le_of_ble_eq_true rfl), (by exact Nat.le_of_ble_eq_true rfl)⟩ (by exact Nat.le_of_ble_eq_true rfl) ⟨(by exact Nat.le_of_ble_eq_true rfl), (by exact Nat.le_of_ble_eq_true rfl)⟩ dX0_become_19 (by rintro v w ⟨rfl, d9, h9, rfl⟩; rfl) (fun _ _ h => h.elim) (fun _ _ h => h.elim) ?_
  rintro v w ⟨rfl, d2, hd2, rfl⟩
  refine zs_eq (wl' := zp_W 0 (d1, d2, g0.2.2) ++ zp_W 7 g) (st' := []) rfl rfl rfl rfl ?_
  refine zs_aload_n B dX0_become_22 (i := 0) rfl rfl ?_
  refine zs_aload_n B dX0_become_23 (i := 1) rfl rfl ?_
  refine zs_get B fX0_become_21 rfl rfl dX0_become_24 ?_
  refine zs_put B (wX0_become_21 rfl rfl) rfl (Nat.le_of_ble_eq_true rfl) dX0_become_27 ?_
  refine zs_aload_n B dX0_become_30 (i := 0) rfl rfl ?_
  refine zs_aload_n B dX0_become_31 (i := 1) rfl rfl ?_
  refine zs_get B fX0_become_25 rfl rfl dX0_become_32 ?_
  refine zs_put B (wX0_become_25 hby.1 hby.2) rfl (Nat.le_of_ble_eq_true rfl) dX0_become_35 ?_
  exact zs_vret hA B rfl (by decide) (by decide) ⟨rfl, (d1, d2, g.2.2), ⟨hd1, hd2, hR.2.2⟩, rfl⟩ dX0_become_38
end
section
/-! the class Tour -/
abbrev zt_D : Type := Int32 × Int32 × Int32 × Int32
def zt_W (t : zt_D) : List zw_E := [.inr (3, [.int t.1, .int t.2.1, .int t.2.2.1, .int t.2.2.2])]
set_option maxHeartbeats 4000000 in
theorem zt_isOn {l : Launch} (hl : l.stackTraces = false) (D : va_G) (dA : Nat → ClassId) (t : zt_D) (h : narrow .boolean (.int t.1) = .int t.1) : zw_Sp l D dA yX3_isOn wsX3_isOn 0 0 0 [.ref 0] (zt_W t) (fun v w => v = some (.int t.1) ∧ w = zt_W t) (fun _ _ => False) := by
  refine zw_start hl (by decide) rfl rfl (Nat.le_of_ble_eq_true rfl) ?_
  intro pr e s m args below meth c ad A hA B
  refine zs_aload_n B dX3_isOn_0 (i := 0) rfl rfl ?_
  refine zs_get B fX3_isOn_9 rfl rfl dX3_isOn_1 ?_
  exact zs_zret hA B rfl h (by decide) (by decide) ⟨rfl, rfl⟩ dX3_isOn_4
set_option maxHeartbeats 4000000 in
theorem zt_order {l : Launch} (hl : l.stackTraces = false) (D : va_G) (dA : Nat → ClassId) (t : zt_D) (h : narrow .char (.int t.2.1) = .int t.2.1) : zw_Sp l D dA yX3_order wsX3_order 0 0 0 [.ref 0] (zt_W t) (fun v w => v = some (.int t.2.1) ∧ w = zt_W t) (fun _ _ => False) := by
  refine zw_start hl (by decide) rfl rfl (Nat.le_of_ble_eq_true rfl) ?_
  intro pr e s m args below meth c ad A hA B
  refine zs_aload_n B dX3_order_0 (i := 0) rfl rfl ?_
  refine zs_get B fX3_order_15 rfl rfl dX3_order_1 ?_
  exact zs_zret hA B rfl h (by decide) (by decide) ⟨rfl, rfl⟩ dX3_order_4
set_option maxHeartbeats 4000000 in
theorem zt_nextPlace {l : Launch} (hl : l.stackTraces = false) (D : va_G) (dA : Nat → ClassId) (t : zt_D) : zw_Sp l D dA yX3_nextPlace wsX3_nextPlace 0 0 0 [.ref 0] (zt_W t) (fun v w => v = some (.int t.2.2.1) ∧ w = zt_W t) (fun _ _ => False) := by
  refine zw_start hl (by decide) rfl rfl (Nat.le_of_ble_eq_true rfl) ?_
  intro pr e s m args below meth c ad A hA B
  refine zs_aload_n B dX3_nextPlace_0 (i := 0) rfl rfl ?_
  refine zs_get B fX3_nextPlace_19 rfl rfl dX3_nextPlace_1 ?_
  exact zs_zret hA B rfl rfl (by decide) (by decide) ⟨rfl, rfl⟩ dX3_nextPlace_4
set_option maxHeartbeats 4000000 in
theorem zt_mayCut {l : Launch} (hl : l.stackTraces = false) (D : va_G) (dA : Nat → ClassId) (t : zt_D) (h : narrow .boolean (.int t.2.2.2) = .int t.2.2.2) : zw_Sp l D dA yX3_mayCut wsX3_mayCut 0 0 0 [.ref 0] (zt_W t) (fun v w => v = some (.int t.2.2.2) ∧ w = zt_W t) (fun _ _ => False) := by
  refine zw_start hl (by decide) rfl rfl (Nat.le_of_ble_eq_true rfl) ?_
  intro pr e s m args below meth c ad A hA B
  refine zs_aload_n B dX3_mayCut_0 (i := 0) rfl rfl ?_
  refine zs_get B fX3_mayCut_23 rfl rfl dX3_mayCut_1 ?_
  exact zs_zret hA B rfl h (by decide) (by decide) ⟨rfl, rfl⟩ dX3_mayCut_4
set_option maxHeartbeats 4000000 in
theorem zt_begin {l : Launch} (hl : l.stackTraces = false) (D : va_G) (dA : Nat → ClassId) (t : zt_D) (o : Int32) (h1 : narrow .char (.int o) = .int o) (h2 : fits .char (.int o) = true) : zw_Sp l D dA yX3_begin wsX3_begin 0 0 0 [.ref 0, .int o] (zt_W t) (fun v w => v = none ∧ w = zt_W (1, o, 0, 0)) (fun _ _ => False) := by
  refine zw_start hl (by decide) rfl rfl (Nat.le_of_ble_eq_true rfl) ?_
  intro pr e s m args below meth c ad A hA B
  refine zs_aload_n B dX3_begin_0 (i := 0) rfl rfl ?_
  refine zs_iconst (v := 1) B dX3_begin_1 (by decide) ?_
  refine zs_put B (wX3_begin_9 rfl rfl) rfl (Nat.le_of_ble_eq_true rfl) dX3_begin_2 ?_
  refine zs_aload_n B dX3_begin_5 (i := 0) rfl rfl ?_
  refine zs_iload_n B dX3_begin_6 (i := 1) rfl rfl ?_
  refine zs_put B (wX3_begin_15 h1 h2) rfl (Nat.le_of_ble_eq_true rfl) dX3_begin_7 ?_
  refine zs_aload_n B dX3_begin_10 (i := 0) rfl rfl ?_
  refine zs_iconst (v := 0) B dX3_begin_11 (by decide) ?_
  refine zs_put B (wX3_begin_19 rfl rfl) rfl (Nat.le_of_ble_eq_true rfl) dX3_begin_12 ?_
  refine zs_aload_n B dX3_begin_15 (i := 0) rfl rfl ?_
  refine zs_iconst (v := 0) B dX3_begin_16 (by decide) ?_
  refine zs_put B (wX3_begin_23 rfl rfl) rfl (Nat.le_of_ble_eq_true rfl) dX3_begin_17 ?_
  exact zs_vret hA B rfl (by decide) (by decide) ⟨rfl, rfl⟩ dX3_begin_20
set_option maxHeartbeats 4000000 in
theorem zt_end {l : Launch} (hl : l.stackTraces = false) (D : va_G) (dA : Nat → ClassId) (t : zt_D) : zw_Sp l D dA yX3_end wsX3_end 0 0 0 [.ref 0] (zt_W t) (fun v w => v = none ∧ w = zt_W (0, t.2)) (fun _ _ => False) := by
  refine zw_start hl (by decide) rfl rfl (Nat.le_of_ble_eq_true rfl) ?_
  intro pr e s m args below meth c ad A hA B
  refine zs_aload_n B dX3_end_0 (i := 0) rfl rfl ?_
  refine zs_iconst (v := 0) B dX3_end_1 (by decide) ?_
  refine zs_put B (wX3_end_9 rfl rfl) rfl (Nat.le_of_ble_eq_true rfl) dX3_end_2 ?_
  exact zs_vret hA B rfl (by decide) (by decide) ⟨rfl, rfl⟩ dX3_end_5
set_option maxHeartbeats 4000000 in
theorem zt_goOver {l : Launch} (hl : l.stackTraces = false) (D : va_G) (dA : Nat → ClassId) (t : zt_D) : zw_Sp l D dA yX3_goOver wsX3_goOver 0 0 0 [.ref 0] (zt_W t) (fun v w => v = none ∧ w = zt_W (t.1, t.2.1, t.2.2.1 + 1, 1)) (fun _ _ => False) := by
  refine zw_start hl (by decide) rfl rfl (Nat.le_of_ble_eq_true rfl) ?_
  intro pr e s m args below meth c ad A hA B
  refine zs_aload_n B dX3_goOver_0 (i := 0) rfl rfl ?_
  refine zs_dup B dX3_goOver_1 rfl ?_
  refine zs_get B fX3_goOver_19 rfl rfl dX3_goOver_2 ?_
  refine zs_iconst (v := 1) B dX3_goOver_5 (by decide) ?_
  refine zs_iadd B dX3_goOver_6 ?_
  refine zs_put B (wX3_goOver_19 rfl rfl) rfl (Nat.le_of_ble_eq_true rfl) dX3_goOver_7 ?_
  refine zs_aload_n B dX3_goOver_10 (i := 0) rfl rfl ?_
  refine zs_iconst (v := 1) B dX3_goOver_11 (by decide) ?_
  refine zs_put B (wX3_goOver_23 rfl rfl) rfl (Nat.le_of_ble_eq_true rfl) dX3_goOver_12 ?_
  exact zs_vret hA B rfl (by decide) (by decide) ⟨rfl, rfl⟩ dX3_goOver_15
set_option maxHeartbeats 4000000 in
theorem zt_goBack {l : Launch} (hl : l.stackTraces = false) (D : va_G) (dA : Nat → ClassId) (t : zt_D) : zw_Sp l D dA yX3_goBack wsX3_goBack 0 0 0 [.ref 0] (zt_W t) (fun v w => v = none ∧ w = zt_W (t.1, t.2.1, t.2.2.1 - 1, 0)) (fun _ _ => False) := by
  refine zw_start hl (by decide) rfl rfl (Nat.le_of_ble_eq_true rfl) ?_
  intro pr e s m args below meth c ad A hA B
  refine zs_aload_n B dX3_goBack_0 (i := 0) rfl rfl ?_
  refine zs_dup B dX3_goBack_1 rfl ?_
  refine zs_get B fX3_goBack_19 rfl rfl dX3_goBack_2 ?_
  refine zs_iconst (v := 1) B dX3_goBack_5 (by decide) ?_
  refine zs_isub B dX3_goBack_6 ?_
  refine zs_put B (wX3_goBack_19 rfl rfl) rfl (Nat.le_of_ble_eq_true rfl) dX3_goBack_7 ?_
  refine zs_aload_n B dX3_goBack_10 (i := 0) rfl rfl ?_
  refine zs_iconst (v := 0) B dX3_goBack_11 (by decide) ?_
  refine zs_put B (wX3_goBack_23 rfl rfl) rfl (Nat.le_of_ble_eq_true rfl) dX3_goBack_12 ?_
  exact zs_vret hA B rfl (by decide) (by decide) ⟨rfl, rfl⟩ dX3_goBack_15
/-! the class Past -/
abbrev zq_D : Type := (Nat → zp_D) × Nat × Nat
def zq_pg (i : Nat) : Nat → Option Nat := va_up (va_up (va_up (va_up (va_up (va_up (va_up (va_up (fun _ => none) 0 (some (i + 2))) 1 (some (i + 9))) 2 (some (i + 16))) 3 (some (i + 23))) 4 (some (i + 30))) 5 (some (i + 37))) 6 (some (i + 44))) 7 (some (i + 51))
def zq_W (i : Nat) (x : zq_D) : List zw_E := .inr (1, [.ref (i + 1), .int (nI x.2.1), .int (nI x.2.2)]) :: .inl (3, 8, .inr (.inr (.inr (.inr (zq_pg i))))) :: (zp_W (i + 2) (x.1 0) ++ (zp_W (i + 9) (x.1 1) ++ (zp_W (i + 16) (x.1 2) ++ (zp_W (i + 23) (x.1 3) ++ (zp_W (i + 30) (x.1 4) ++ (zp_W (i + 37) (x.1 5) ++ (zp_W (i + 44) (x.1 6) ++ zp_W (i + 51) (x.1 7))))))))
def zq_nx (f : Nat) : Nat := if f + 1 < 8 then f + 1 else 0
def zq_pv (f : Nat) : Nat := if 0 < f then f - 1 else 7
def zp_ok (g : zp_D) : Prop := narrow .char (.int g.2.2.2) = .int g.2.2.2 ∧ fits .char (.int g.2.2.2) = true
set_option maxHeartbeats 4000000 in
theorem zq_kept {l : Launch} (hl : l.stackTraces = false) (D : va_G) (dA : Nat → ClassId) (x : zq_D) : zw_Sp l D dA yX1_kept wsX1_kept 0 0 0 [.ref 0] (zq_W 0 x) (fun v w => v = some (.int (nI x.2.2)) ∧ w = zq_W 0 x) (fun _ _ => False) := by
  refine zw_start hl (by decide) rfl rfl (Nat.le_of_ble_eq_true rfl) ?_
  intro pr e s m args below meth c ad A hA B
  refine zs_aload_n B dX1_kept_0 (i := 0) rfl rfl ?_
  refine zs_get B fX1_kept_22 rfl rfl dX1_kept_1 ?_
  exact zs_zret hA B rfl rfl (by decide) (by decide) ⟨rfl, rfl⟩ dX1_kept_4
theorem zw_back_app : ∀ (is1 is2 : List Nat) (es1 es2 W : List zw_E), is1.length = es1.length → zw_back W (is1 ++ is2) (es1 ++ es2) = zw_back (zw_back W is2 es2) is1 es1
  | [], is2, [], es2, W, _ => rfl
  | [], _, _ :: _, _, _, h => by cases h
  | _ :: _, _, [], _, _, h => by cases h
  | i :: is1, is2, e :: es1, es2, W, h => by
    show (zw_back W (is1 ++ is2) (es1 ++ es2)).set i e = (zw_back (zw_back W is2 es2) is1 es1).set i e
    rw [zw_back_app is1 is2 es1 es2 W (Nat.succ.inj h)]
theorem zw_back_id : ∀ (is : List Nat) (es W : List zw_E), is.map (fun i => W[i]?) = es.map some → zw_back W is es = W
  | [], _, _, _ => rfl
  | _ :: _, [], _, _ => rfl
  | i :: is, e :: es, W, h => by
    obtain ⟨h1, h2⟩ := List.cons.inj h
    show (zw_back W is es).set i e = W
    rw [zw_back_id is es W h2]
    obtain ⟨hl, he⟩ := List.getElem?_eq_some_iff.mp h1
    rw [← he, List.set_getElem_self]
theorem zw_back_blk : ∀ (Y Y' X1 X2 : List zw_E), Y.length = Y'.length → zw_back (X1 ++ (Y ++ X2)) (List.range' X1.length Y'.length) Y' = X1 ++ (Y' ++ X2)
  | [], [], X1, X2, _ => rfl
  | [], _ :: _, _, _, h => by cases h
  | _ :: _, [], _, _, h => by cases h
  | y :: Y, y' :: Y', X1, X2, h => by
    show (zw_back (X1 ++ (y :: Y ++ X2)) (List.range' (X1.length + 1) Y'.length) Y').set X1.length y' = _
    have ih := zw_back_blk Y Y' (X1 ++ [y]) X2 (Nat.succ.inj h)
    rw [List.length_append, show [y].length = 1 from rfl, List.append_assoc, List.singleton_append, List.append_assoc, List.singleton_append] at ih
    rw [show y :: Y ++ X2 = y :: (Y ++ X2) from rfl, ih, List.set_append_right _ _ (Nat.le_refl _), Nat.sub_self]
    rfl
theorem zw_put1 {X1 Y Y' X2 : List zw_E} {is : List Nat} (h1 : is = List.range' X1.length Y'.length) (h2 : Y.length = Y'.length) : zw_back (X1 ++ (Y ++ X2)) is Y' = X1 ++ (Y' ++ X2) := by
  rw [h1]
  exact zw_back_blk Y Y' X1 X2 h2
theorem zq_up0 (r : Nat → zp_D) (f k : Nat) (g g1 : zp_D) : zw_back (zq_W 0 (r, f, k) ++ zp_W 58 g) [2, 3, 4, 5, 6, 7, 8] (zp_W 2 g1) = zq_W 0 (va_up r 0 g1, f, k) ++ zp_W 58 g := by
  have h := zw_put1 (X1 := .inr (1, [.ref 1, .int (nI f), .int (nI k)]) :: .inl (3, 8, .inr (.inr (.inr (.inr (zq_pg 0))))) :: []) (Y := zp_W 2 (r 0)) (Y' := zp_W 2 g1) (X2 := zp_W 9 (r 1) ++ (zp_W 16 (r 2) ++ (zp_W 23 (r 3) ++ (zp_W 30 (r 4) ++ (zp_W 37 (r 5) ++ (zp_W 44 (r 6) ++ (zp_W 51 (r 7) ++ (zp_W 58 g)))))))) (is := [2, 3, 4, 5, 6, 7, 8]) rfl rfl
  simp only [zq_W, List.cons_append, List.append_assoc, List.nil_append] at h ⊢
  exact h
theorem zq_upk0 (r : Nat → zp_D) (f k : Nat) (g g1 : zp_D) : zw_back (zq_W 0 (r, f, k) ++ zp_W 58 g) [2, 3, 4, 5, 6, 7, 8, 58, 59, 60, 61, 62, 63, 64] ((zp_W 0 g1 ++ zp_W 7 g).map (zw_rE [2, 3, 4, 5, 6, 7, 8, 58, 59, 60, 61, 62, 63, 64])) = zq_W 0 (va_up r 0 g1, f, k) ++ zp_W 58 g := by
  have h1 : (zp_W 0 g1 ++ zp_W 7 g).map (zw_rE [2, 3, 4, 5, 6, 7, 8, 58, 59, 60, 61, 62, 63, 64]) = zp_W 2 g1 ++ zp_W 58 g := rfl
  rw [h1]
  refine (zw_back_app [2, 3, 4, 5, 6, 7, 8] [58, 59, 60, 61, 62, 63, 64] (zp_W 2 g1) (zp_W 58 g) _ rfl).trans ?_
  rw [zw_back_id [58, 59, 60, 61, 62, 63, 64] (zp_W 58 g) _ rfl]
  exact zq_up0 r f k g g1
theorem zq_upb0 (r : Nat → zp_D) (f k : Nat) (g g1 : zp_D) : zw_back (zq_W 0 (r, f, k) ++ zp_W 58 g) [58, 59, 60, 61, 62, 63, 64, 2, 3, 4, 5, 6, 7, 8] ((zp_W 0 g1 ++ zp_W 7 (r 0)).map (zw_rE [58, 59, 60, 61, 62, 63, 64, 2, 3, 4, 5, 6, 7, 8])) = zq_W 0 (r, f, k) ++ zp_W 58 g1 := by
  have h1 : (zp_W 0 g1 ++ zp_W 7 (r 0)).map (zw_rE [58, 59, 60, 61, 62, 63, 64, 2, 3, 4, 5, 6, 7, 8]) = zp_W 58 g1 ++ zp_W 2 (r 0) := rfl
  rw [h1]
  refine (zw_back_app [58, 59, 60, 61, 62, 63, 64] [2, 3, 4, 5, 6, 7, 8] (zp_W 58 g1) (zp_W 2 (r 0)) _ rfl).trans ?_
  rw [zw_back_id [2, 3, 4, 5, 6, 7, 8] (zp_W 2 (r 0)) _ rfl]
  have h := zw_put1 (X1 := zq_W 0 (r, f, k)) (Y := zp_W 58 g) (Y' := zp_W 58 g1) (X2 := []) (is := [58, 59, 60, 61, 62, 63, 64]) rfl rfl
  simp only [List.append_nil] at h
  exact h
theorem zq_up1 (r : Nat → zp_D) (f k : Nat) (g g1 : zp_D) : zw_back (zq_W 0 (r, f, k) ++ zp_W 58 g) [9, 10, 11, 12, 13, 14, 15] (zp_W 9 g1) = zq_W 0 (va_up r 1 g1, f, k) ++ zp_W 58 g := by
  have h := zw_put1 (X1 := .inr (1, [.ref 1, .int (nI f), .int (nI k)]) :: .inl (3, 8, .inr (.inr (.inr (.inr (zq_pg 0))))) :: (zp_W 2 (r 0))) (Y := zp_W 9 (r 1)) (Y' := zp_W 9 g1) (X2 := zp_W 16 (r 2) ++ (zp_W 23 (r 3) ++ (zp_W 30 (r 4) ++ (zp_W 37 (r 5) ++ (zp_W 44 (r 6) ++ (zp_W 51 (r 7) ++ (zp_W 58 g))))))) (is := [9, 10, 11, 12, 13, 14, 15]) rfl rfl
  simp only [zq_W, List.cons_append, List.append_assoc, List.nil_append] at h ⊢
  exact h
theorem zq_upk1 (r : Nat → zp_D) (f k : Nat) (g g1 : zp_D) : zw_back (zq_W 0 (r, f, k) ++ zp_W 58 g) [9, 10, 11, 12, 13, 14, 15, 58, 59, 60, 61, 62, 63, 64] ((zp_W 0 g1 ++ zp_W 7 g).map (zw_rE [9, 10, 11, 12, 13, 14, 15, 58, 59, 60, 61, 62, 63, 64])) = zq_W 0 (va_up r 1 g1, f, k) ++ zp_W 58 g := by
  have h1 : (zp_W 0 g1 ++ zp_W 7 g).map (zw_rE [9, 10, 11, 12, 13, 14, 15, 58, 59, 60, 61, 62, 63, 64]) = zp_W 9 g1 ++ zp_W 58 g := rfl
  rw [h1]
  refine (zw_back_app [9, 10, 11, 12, 13, 14, 15] [58, 59, 60, 61, 62, 63, 64] (zp_W 9 g1) (zp_W 58 g) _ rfl).trans ?_
  rw [zw_back_id [58, 59, 60, 61, 62, 63, 64] (zp_W 58 g) _ rfl]
  exact zq_up1 r f k g g1
theorem zq_upb1 (r : Nat → zp_D) (f k : Nat) (g g1 : zp_D) : zw_back (zq_W 0 (r, f, k) ++ zp_W 58 g) [58, 59, 60, 61, 62, 63, 64, 9, 10, 11, 12, 13, 14, 15] ((zp_W 0 g1 ++ zp_W 7 (r 1)).map (zw_rE [58, 59, 60, 61, 62, 63, 64, 9, 10, 11, 12, 13, 14, 15])) = zq_W 0 (r, f, k) ++ zp_W 58 g1 := by
  have h1 : (zp_W 0 g1 ++ zp_W 7 (r 1)).map (zw_rE [58, 59, 60, 61, 62, 63, 64, 9, 10, 11, 12, 13, 14, 15]) = zp_W 58 g1 ++ zp_W 9 (r 1) := rfl
  rw [h1]
  refine (zw_back_app [58, 59, 60, 61, 62, 63, 64] [9, 10, 11, 12, 13, 14, 15] (zp_W 58 g1) (zp_W 9 (r 1)) _ rfl).trans ?_
  rw [zw_back_id [9, 10, 11, 12, 13, 14, 15] (zp_W 9 (r 1)) _ rfl]
  have h := zw_put1 (X1 := zq_W 0 (r, f, k)) (Y := zp_W 58 g) (Y' := zp_W 58 g1) (X2 := []) (is := [58, 59, 60, 61, 62, 63, 64]) rfl rfl
  simp only [List.append_nil] at h
  exact h
theorem zq_up2 (r : Nat → zp_D) (f k : Nat) (g g1 : zp_D) : zw_back (zq_W 0 (r, f, k) ++ zp_W 58 g) [16, 17, 18, 19, 20, 21, 22] (zp_W 16 g1) = zq_W 0 (va_up r 2 g1, f, k) ++ zp_W 58 g := by
  have h := zw_put1 (X1 := .inr (1, [.ref 1, .int (nI f), .int (nI k)]) :: .inl (3, 8, .inr (.inr (.inr (.inr (zq_pg 0))))) :: (zp_W 2 (r 0) ++ (zp_W 9 (r 1)))) (Y := zp_W 16 (r 2)) (Y' := zp_W 16 g1) (X2 := zp_W 23 (r 3) ++ (zp_W 30 (r 4) ++ (zp_W 37 (r 5) ++ (zp_W 44 (r 6) ++ (zp_W 51 (r 7) ++ (zp_W 58 g)))))) (is := [16, 17, 18, 19, 20, 21, 22]) rfl rfl
  simp only [zq_W, List.cons_append, List.append_assoc, List.nil_append] at h ⊢
  exact h
theorem zq_upk2 (r : Nat → zp_D) (f k : Nat) (g g1 : zp_D) : zw_back (zq_W 0 (r, f, k) ++ zp_W 58 g) [16, 17, 18, 19, 20, 21, 22, 58, 59, 60, 61, 62, 63, 64] ((zp_W 0 g1 ++ zp_W 7 g).map (zw_rE [16, 17, 18, 19, 20, 21, 22, 58, 59, 60, 61, 62, 63, 64])) = zq_W 0 (va_up r 2 g1, f, k) ++ zp_W 58 g := by
  have h1 : (zp_W 0 g1 ++ zp_W 7 g).map (zw_rE [16, 17, 18, 19, 20, 21, 22, 58, 59, 60, 61, 62, 63, 64]) = zp_W 16 g1 ++ zp_W 58 g := rfl
  rw [h1]
  refine (zw_back_app [16, 17, 18, 19, 20, 21, 22] [58, 59, 60, 61, 62, 63, 64] (zp_W 16 g1) (zp_W 58 g) _ rfl).trans ?_
  rw [zw_back_id [58, 59, 60, 61, 62, 63, 64] (zp_W 58 g) _ rfl]
  exact zq_up2 r f k g g1
theorem zq_upb2 (r : Nat → zp_D) (f k : Nat) (g g1 : zp_D) : zw_back (zq_W 0 (r, f, k) ++ zp_W 58 g) [58, 59, 60, 61, 62, 63, 64, 16, 17, 18, 19, 20, 21, 22] ((zp_W 0 g1 ++ zp_W 7 (r 2)).map (zw_rE [58, 59, 60, 61, 62, 63, 64, 16, 17, 18, 19, 20, 21, 22])) = zq_W 0 (r, f, k) ++ zp_W 58 g1 := by
  have h1 : (zp_W 0 g1 ++ zp_W 7 (r 2)).map (zw_rE [58, 59, 60, 61, 62, 63, 64, 16, 17, 18, 19, 20, 21, 22]) = zp_W 58 g1 ++ zp_W 16 (r 2) := rfl
  rw [h1]
  refine (zw_back_app [58, 59, 60, 61, 62, 63, 64] [16, 17, 18, 19, 20, 21, 22] (zp_W 58 g1) (zp_W 16 (r 2)) _ rfl).trans ?_
  rw [zw_back_id [16, 17, 18, 19, 20, 21, 22] (zp_W 16 (r 2)) _ rfl]
  have h := zw_put1 (X1 := zq_W 0 (r, f, k)) (Y := zp_W 58 g) (Y' := zp_W 58 g1) (X2 := []) (is := [58, 59, 60, 61, 62, 63, 64]) rfl rfl
  simp only [List.append_nil] at h
  exact h
theorem zq_up3 (r : Nat → zp_D) (f k : Nat) (g g1 : zp_D) : zw_back (zq_W 0 (r, f, k) ++ zp_W 58 g) [23, 24, 25, 26, 27, 28, 29] (zp_W 23 g1) = zq_W 0 (va_up r 3 g1, f, k) ++ zp_W 58 g := by
  have h := zw_put1 (X1 := .inr (1, [.ref 1, .int (nI f), .int (nI k)]) :: .inl (3, 8, .inr (.inr (.inr (.inr (zq_pg 0))))) :: (zp_W 2 (r 0) ++ (zp_W 9 (r 1) ++ (zp_W 16 (r 2))))) (Y := zp_W 23 (r 3)) (Y' := zp_W 23 g1) (X2 := zp_W 30 (r 4) ++ (zp_W 37 (r 5) ++ (zp_W 44 (r 6) ++ (zp_W 51 (r 7) ++ (zp_W 58 g))))) (is := [23, 24, 25, 26, 27, 28, 29]) rfl rfl
  simp only [zq_W, List.cons_append, List.append_assoc, List.nil_append] at h ⊢
  exact h
theorem zq_upk3 (r : Nat → zp_D) (f k : Nat) (g g1 : zp_D) : zw_back (zq_W 0 (r, f, k) ++ zp_W 58 g) [23, 24, 25, 26, 27, 28, 29, 58, 59, 60, 61, 62, 63, 64] ((zp_W 0 g1 ++ zp_W 7 g).map (zw_rE [23, 24, 25, 26, 27, 28, 29, 58, 59, 60, 61, 62, 63, 64])) = zq_W 0 (va_up r 3 g1, f, k) ++ zp_W 58 g := by
  have h1 : (zp_W 0 g1 ++ zp_W 7 g).map (zw_rE [23, 24, 25, 26, 27, 28, 29, 58, 59, 60, 61, 62, 63, 64]) = zp_W 23 g1 ++ zp_W 58 g := rfl
  rw [h1]
  refine (zw_back_app [23, 24, 25, 26, 27, 28, 29] [58, 59, 60, 61, 62, 63, 64] (zp_W 23 g1) (zp_W 58 g) _ rfl).trans ?_
  rw [zw_back_id [58, 59, 60, 61, 62, 63, 64] (zp_W 58 g) _ rfl]
  exact zq_up3 r f k g g1
theorem zq_upb3 (r : Nat → zp_D) (f k : Nat) (g g1 : zp_D) : zw_back (zq_W 0 (r, f, k) ++ zp_W 58 g) [58, 59, 60, 61, 62, 63, 64, 23, 24, 25, 26, 27, 28, 29] ((zp_W 0 g1 ++ zp_W 7 (r 3)).map (zw_rE [58, 59, 60, 61, 62, 63, 64, 23, 24, 25, 26, 27, 28, 29])) = zq_W 0 (r, f, k) ++ zp_W 58 g1 := by
  have h1 : (zp_W 0 g1 ++ zp_W 7 (r 3)).map (zw_rE [58, 59, 60, 61, 62, 63, 64, 23, 24, 25, 26, 27, 28, 29]) = zp_W 58 g1 ++ zp_W 23 (r 3) := rfl
  rw [h1]
  refine (zw_back_app [58, 59, 60, 61, 62, 63, 64] [23, 24, 25, 26, 27, 28, 29] (zp_W 58 g1) (zp_W 23 (r 3)) _ rfl).trans ?_
  rw [zw_back_id [23, 24, 25, 26, 27, 28, 29] (zp_W 23 (r 3)) _ rfl]
  have h := zw_put1 (X1 := zq_W 0 (r, f, k)) (Y := zp_W 58 g) (Y' := zp_W 58 g1) (X2 := []) (is := [58, 59, 60, 61, 62, 63, 64]) rfl rfl
  simp only [List.append_nil] at h
  exact h
theorem zq_up4 (r : Nat → zp_D) (f k : Nat) (g g1 : zp_D) : zw_back (zq_W 0 (r, f, k) ++ zp_W 58 g) [30, 31, 32, 33, 34, 35, 36] (zp_W 30 g1) = zq_W 0 (va_up r 4 g1, f, k) ++ zp_W 58 g := by
  have h := zw_put1 (X1 := .inr (1, [.ref 1, .int (nI f), .int (nI k)]) :: .inl (3, 8, .inr (.inr (.inr (.inr (zq_pg 0))))) :: (zp_W 2 (r 0) ++ (zp_W 9 (r 1) ++ (zp_W 16 (r 2) ++ (zp_W 23 (r 3)))))) (Y := zp_W 30 (r 4)) (Y' := zp_W 30 g1) (X2 := zp_W 37 (r 5) ++ (zp_W 44 (r 6) ++ (zp_W 51 (r 7) ++ (zp_W 58 g)))) (is := [30, 31, 32, 33, 34, 35, 36]) rfl rfl
  simp only [zq_W, List.cons_append, List.append_assoc, List.nil_append] at h ⊢
  exact h
theorem zq_upk4 (r : Nat → zp_D) (f k : Nat) (g g1 : zp_D) : zw_back (zq_W 0 (r, f, k) ++ zp_W 58 g) [30, 31, 32, 33, 34, 35, 36, 58, 59, 60, 61, 62, 63, 64] ((zp_W 0 g1 ++ zp_W 7 g).map (zw_rE [30, 31, 32, 33, 34, 35, 36, 58, 59, 60, 61, 62, 63, 64])) = zq_W 0 (va_up r 4 g1, f, k) ++ zp_W 58 g := by
  have h1 : (zp_W 0 g1 ++ zp_W 7 g).map (zw_rE [30, 31, 32, 33, 34, 35, 36, 58, 59, 60, 61, 62, 63, 64]) = zp_W 30 g1 ++ zp_W 58 g := rfl
  rw [h1]
  refine (zw_back_app [30, 31, 32, 33, 34, 35, 36] [58, 59, 60, 61, 62, 63, 64] (zp_W 30 g1) (zp_W 58 g) _ rfl).trans ?_
  rw [zw_back_id [58, 59, 60, 61, 62, 63, 64] (zp_W 58 g) _ rfl]
  exact zq_up4 r f k g g1
theorem zq_upb4 (r : Nat → zp_D) (f k : Nat) (g g1 : zp_D) : zw_back (zq_W 0 (r, f, k) ++ zp_W 58 g) [58, 59, 60, 61, 62, 63, 64, 30, 31, 32, 33, 34, 35, 36] ((zp_W 0 g1 ++ zp_W 7 (r 4)).map (zw_rE [58, 59, 60, 61, 62, 63, 64, 30, 31, 32, 33, 34, 35, 36])) = zq_W 0 (r, f, k) ++ zp_W 58 g1 := by
  have h1 : (zp_W 0 g1 ++ zp_W 7 (r 4)).map (zw_rE [58, 59, 60, 61, 62, 63, 64, 30, 31, 32, 33, 34, 35, 36]) = zp_W 58 g1 ++ zp_W 30 (r 4) := rfl
  rw [h1]
  refine (zw_back_app [58, 59, 60, 61, 62, 63, 64] [30, 31, 32, 33, 34, 35, 36] (zp_W 58 g1) (zp_W 30 (r 4)) _ rfl).trans ?_
  rw [zw_back_id [30, 31, 32, 33, 34, 35, 36] (zp_W 30 (r 4)) _ rfl]
  have h := zw_put1 (X1 := zq_W 0 (r, f, k)) (Y := zp_W 58 g) (Y' := zp_W 58 g1) (X2 := []) (is := [58, 59, 60, 61, 62, 63, 64]) rfl rfl
  simp only [List.append_nil] at h
  exact h
theorem zq_up5 (r : Nat → zp_D) (f k : Nat) (g g1 : zp_D) : zw_back (zq_W 0 (r, f, k) ++ zp_W 58 g) [37, 38, 39, 40, 41, 42, 43] (zp_W 37 g1) = zq_W 0 (va_up r 5 g1, f, k) ++ zp_W 58 g := by
  have h := zw_put1 (X1 := .inr (1, [.ref 1, .int (nI f), .int (nI k)]) :: .inl (3, 8, .inr (.inr (.inr (.inr (zq_pg 0))))) :: (zp_W 2 (r 0) ++ (zp_W 9 (r 1) ++ (zp_W 16 (r 2) ++ (zp_W 23 (r 3) ++ (zp_W 30 (r 4))))))) (Y := zp_W 37 (r 5)) (Y' := zp_W 37 g1) (X2 := zp_W 44 (r 6) ++ (zp_W 51 (r 7) ++ (zp_W 58 g))) (is := [37, 38, 39, 40, 41, 42, 43]) rfl rfl
  simp only [zq_W, List.cons_append, List.append_assoc, List.nil_append] at h ⊢
  exact h
theorem zq_upk5 (r : Nat → zp_D) (f k : Nat) (g g1 : zp_D) : zw_back (zq_W 0 (r, f, k) ++ zp_W 58 g) [37, 38, 39, 40, 41, 42, 43, 58, 59, 60, 61, 62, 63, 64] ((zp_W 0 g1 ++ zp_W 7 g).map (zw_rE [37, 38, 39, 40, 41, 42, 43, 58, 59, 60, 61, 62, 63, 64])) = zq_W 0 (va_up r 5 g1, f, k) ++ zp_W 58 g := by
  have h1 : (zp_W 0 g1 ++ zp_W 7 g).map (zw_rE [37, 38, 39, 40, 41, 42, 43, 58, 59, 60, 61, 62, 63, 64]) = zp_W 37 g1 ++ zp_W 58 g := rfl
  rw [h1]
  refine (zw_back_app [37, 38, 39, 40, 41, 42, 43] [58, 59, 60, 61, 62, 63, 64] (zp_W 37 g1) (zp_W 58 g) _ rfl).trans ?_
  rw [zw_back_id [58, 59, 60, 61, 62, 63, 64] (zp_W 58 g) _ rfl]
  exact zq_up5 r f k g g1
theorem zq_upb5 (r : Nat → zp_D) (f k : Nat) (g g1 : zp_D) : zw_back (zq_W 0 (r, f, k) ++ zp_W 58 g) [58, 59, 60, 61, 62, 63, 64, 37, 38, 39, 40, 41, 42, 43] ((zp_W 0 g1 ++ zp_W 7 (r 5)).map (zw_rE [58, 59, 60, 61, 62, 63, 64, 37, 38, 39, 40, 41, 42, 43])) = zq_W 0 (r, f, k) ++ zp_W 58 g1 := by
  have h1 : (zp_W 0 g1 ++ zp_W 7 (r 5)).map (zw_rE [58, 59, 60, 61, 62, 63, 64, 37, 38, 39, 40, 41, 42, 43]) = zp_W 58 g1 ++ zp_W 37 (r 5) := rfl
  rw [h1]
  refine (zw_back_app [58, 59, 60, 61, 62, 63, 64] [37, 38, 39, 40, 41, 42, 43] (zp_W 58 g1) (zp_W 37 (r 5)) _ rfl).trans ?_
  rw [zw_back_id [37, 38, 39, 40, 41, 42, 43] (zp_W 37 (r 5)) _ rfl]
  have h := zw_put1 (X1 := zq_W 0 (r, f, k)) (Y := zp_W 58 g) (Y' := zp_W 58 g1) (X2 := []) (is := [58, 59, 60, 61, 62, 63, 64]) rfl rfl
  simp only [List.append_nil] at h
  exact h
theorem zq_up6 (r : Nat → zp_D) (f k : Nat) (g g1 : zp_D) : zw_back (zq_W 0 (r, f, k) ++ zp_W 58 g) [44, 45, 46, 47, 48, 49, 50] (zp_W 44 g1) = zq_W 0 (va_up r 6 g1, f, k) ++ zp_W 58 g := by
  have h := zw_put1 (X1 := .inr (1, [.ref 1, .int (nI f), .int (nI k)]) :: .inl (3, 8, .inr (.inr (.inr (.inr (zq_pg 0))))) :: (zp_W 2 (r 0) ++ (zp_W 9 (r 1) ++ (zp_W 16 (r 2) ++ (zp_W 23 (r 3) ++ (zp_W 30 (r 4) ++ (zp_W 37 (r 5)))))))) (Y := zp_W 44 (r 6)) (Y' := zp_W 44 g1) (X2 := zp_W 51 (r 7) ++ (zp_W 58 g)) (is := [44, 45, 46, 47, 48, 49, 50]) rfl rfl
  simp only [zq_W, List.cons_append, List.append_assoc, List.nil_append] at h ⊢
  exact h
theorem zq_upk6 (r : Nat → zp_D) (f k : Nat) (g g1 : zp_D) : zw_back (zq_W 0 (r, f, k) ++ zp_W 58 g) [44, 45, 46, 47, 48, 49, 50, 58, 59, 60, 61, 62, 63, 64] ((zp_W 0 g1 ++ zp_W 7 g).map (zw_rE [44, 45, 46, 47, 48, 49, 50, 58, 59, 60, 61, 62, 63, 64])) = zq_W 0 (va_up r 6 g1, f, k) ++ zp_W 58 g := by
  have h1 : (zp_W 0 g1 ++ zp_W 7 g).map (zw_rE [44, 45, 46, 47, 48, 49, 50, 58, 59, 60, 61, 62, 63, 64]) = zp_W 44 g1 ++ zp_W 58 g := rfl
  rw [h1]
  refine (zw_back_app [44, 45, 46, 47, 48, 49, 50] [58, 59, 60, 61, 62, 63, 64] (zp_W 44 g1) (zp_W 58 g) _ rfl).trans ?_
  rw [zw_back_id [58, 59, 60, 61, 62, 63, 64] (zp_W 58 g) _ rfl]
  exact zq_up6 r f k g g1
theorem zq_upb6 (r : Nat → zp_D) (f k : Nat) (g g1 : zp_D) : zw_back (zq_W 0 (r, f, k) ++ zp_W 58 g) [58, 59, 60, 61, 62, 63, 64, 44, 45, 46, 47, 48, 49, 50] ((zp_W 0 g1 ++ zp_W 7 (r 6)).map (zw_rE [58, 59, 60, 61, 62, 63, 64, 44, 45, 46, 47, 48, 49, 50])) = zq_W 0 (r, f, k) ++ zp_W 58 g1 := by
  have h1 : (zp_W 0 g1 ++ zp_W 7 (r 6)).map (zw_rE [58, 59, 60, 61, 62, 63, 64, 44, 45, 46, 47, 48, 49, 50]) = zp_W 58 g1 ++ zp_W 44 (r 6) := rfl
  rw [h1]
  refine (zw_back_app [58, 59, 60, 61, 62, 63, 64] [44, 45, 46, 47, 48, 49, 50] (zp_W 58 g1) (zp_W 44 (r 6)) _ rfl).trans ?_
  rw [zw_back_id [44, 45, 46, 47, 48, 49, 50] (zp_W 44 (r 6)) _ rfl]
  have h := zw_put1 (X1 := zq_W 0 (r, f, k)) (Y := zp_W 58 g) (Y' := zp_W 58 g1) (X2 := []) (is := [58, 59, 60, 61, 62, 63, 64]) rfl rfl
  simp only [List.append_nil] at h
  exact h
theorem zq_up7 (r : Nat → zp_D) (f k : Nat) (g g1 : zp_D) : zw_back (zq_W 0 (r, f, k) ++ zp_W 58 g) [51, 52, 53, 54, 55, 56, 57] (zp_W 51 g1) = zq_W 0 (va_up r 7 g1, f, k) ++ zp_W 58 g := by
  have h := zw_put1 (X1 := .inr (1, [.ref 1, .int (nI f), .int (nI k)]) :: .inl (3, 8, .inr (.inr (.inr (.inr (zq_pg 0))))) :: (zp_W 2 (r 0) ++ (zp_W 9 (r 1) ++ (zp_W 16 (r 2) ++ (zp_W 23 (r 3) ++ (zp_W 30 (r 4) ++ (zp_W 37 (r 5) ++ (zp_W 44 (r 6))))))))) (Y := zp_W 51 (r 7)) (Y' := zp_W 51 g1) (X2 := zp_W 58 g) (is := [51, 52, 53, 54, 55, 56, 57]) rfl rfl
  simp only [zq_W, List.cons_append, List.append_assoc, List.nil_append] at h ⊢
  exact h
theorem zq_upk7 (r : Nat → zp_D) (f k : Nat) (g g1 : zp_D) : zw_back (zq_W 0 (r, f, k) ++ zp_W 58 g) [51, 52, 53, 54, 55, 56, 57, 58, 59, 60, 61, 62, 63, 64] ((zp_W 0 g1 ++ zp_W 7 g).map (zw_rE [51, 52, 53, 54, 55, 56, 57, 58, 59, 60, 61, 62, 63, 64])) = zq_W 0 (va_up r 7 g1, f, k) ++ zp_W 58 g := by
  have h1 : (zp_W 0 g1 ++ zp_W 7 g).map (zw_rE [51, 52, 53, 54, 55, 56, 57, 58, 59, 60, 61, 62, 63, 64]) = zp_W 51 g1 ++ zp_W 58 g := rfl
  rw [h1]
  refine (zw_back_app [51, 52, 53, 54, 55, 56, 57] [58, 59, 60, 61, 62, 63, 64] (zp_W 51 g1) (zp_W 58 g) _ rfl).trans ?_
  rw [zw_back_id [58, 59, 60, 61, 62, 63, 64] (zp_W 58 g) _ rfl]
  exact zq_up7 r f k g g1
theorem zq_upb7 (r : Nat → zp_D) (f k : Nat) (g g1 : zp_D) : zw_back (zq_W 0 (r, f, k) ++ zp_W 58 g) [58, 59, 60, 61, 62, 63, 64, 51, 52, 53, 54, 55, 56, 57] ((zp_W 0 g1 ++ zp_W 7 (r 7)).map (zw_rE [58, 59, 60, 61, 62, 63, 64, 51, 52, 53, 54, 55, 56, 57])) = zq_W 0 (r, f, k) ++ zp_W 58 g1 := by
  have h1 : (zp_W 0 g1 ++ zp_W 7 (r 7)).map (zw_rE [58, 59, 60, 61, 62, 63, 64, 51, 52, 53, 54, 55, 56, 57]) = zp_W 58 g1 ++ zp_W 51 (r 7) := rfl
  rw [h1]
  refine (zw_back_app [58, 59, 60, 61, 62, 63, 64] [51, 52, 53, 54, 55, 56, 57] (zp_W 58 g1) (zp_W 51 (r 7)) _ rfl).trans ?_
  rw [zw_back_id [51, 52, 53, 54, 55, 56, 57] (zp_W 51 (r 7)) _ rfl]
  have h := zw_put1 (X1 := zq_W 0 (r, f, k)) (Y := zp_W 58 g) (Y' := zp_W 58 g1) (X2 := []) (is := [58, 59, 60, 61, 62, 63, 64]) rfl rfl
  simp only [List.append_nil] at h
  exact h
set_option maxHeartbeats 4000000 in
theorem zq_keep {l : Launch} (hl : l.stackTraces = false) (D : va_G) (dA : Nat → ClassId) (r : Nat → zp_D) (f k : Nat) (hf : f < 8) (hk : k ≤ 8) (g : zp_D) (S : zp_L) (hR : zp_R S g) (hg : zp_ok g) : zw_Sp l D dA yX1_keep wsX1_keep 4 0 0 [.ref 0, .ref 58] (zq_W 0 (r, f, k) ++ zp_W 58 g) (fun v w => v = none ∧ ∃ g', zp_R S g' ∧ w = zq_W 0 (va_up r f g', zq_nx f, min (k + 1) 8) ++ zp_W 58 g) (fun _ _ => False) := by
  refine zw_start hl (by decide) rfl rfl (Nat.le_of_ble_eq_true rfl) ?_
  intro pr e s m args below meth c ad A hA B
  refine zs_aload_n B dX1_keep_0 (i := 0) rfl rfl ?_
  refine zs_get B fX1_keep_18 rfl rfl dX1_keep_1 ?_
  refine zs_if_lt (tgt := 19) B dX1_keep_4 (by decide) (fun h => absurd h (nI_pos (n := f) (by omega))) (fun _ => ?_)
  refine zs_aload_n B dX1_keep_7 (i := 0) rfl rfl ?_
  refine zs_get B fX1_keep_18 rfl rfl dX1_keep_8 ?_
  refine zs_aload_n B dX1_keep_11 (i := 0) rfl rfl ?_
  refine zs_get B fX1_keep_11 rfl rfl dX1_keep_12 ?_
  refine zs_alen (v := 8) B rfl (by decide) (by decide) dX1_keep_15 ?_
  refine zs_icmp_lt (tgt := 20) B dX1_keep_16 (by decide) (fun _ => ?_) (fun h => absurd (show nI f < nI 8 from nI_lt hf (by omega)) h)
  refine zs_aload_n B dX1_keep_20 (i := 0) rfl rfl ?_
  refine zs_get B fX1_keep_11 rfl rfl dX1_keep_21 ?_
  refine zs_aload_n B dX1_keep_24 (i := 0) rfl rfl ?_
  refine zs_get B fX1_keep_18 rfl rfl dX1_keep_25 ?_
  have e1 : (if f + 1 < 8 then nI (f + 1) else 0) = nI (zq_nx f) := by
    unfold zq_nx
    split
    · rfl
    · exact nI_0.symm
  have e2 : (if (8 : Int32) < nI (k + 1) then 8 else nI (k + 1)) = nI (min (k + 1) 8) := by
    by_cases h : k + 1 ≤ 8
    · rw [if_neg (show ¬ (8 : Int32) < nI (k + 1) from nI_nlt (b := k + 1) (a := 8) h (by omega)), Nat.min_eq_left h]
    · rw [if_pos (show (8 : Int32) < nI (k + 1) from nI_lt (a := 8) (b := k + 1) (by omega) (by omega)), Nat.min_eq_right (by omega)]
      rfl
  rcases (show f = 0 ∨ f = 1 ∨ f = 2 ∨ f = 3 ∨ f = 4 ∨ f = 5 ∨ f = 6 ∨ f = 7 by omega) with rfl | rfl | rfl | rfl | rfl | rfl | rfl | rfl
  · refine zs_aal B 0 rfl (Or.inl rfl) (by decide) (by decide) rfl (r := 2) (by rfl) dX1_keep_28 ?_
    refine zs_aload_n B dX1_keep_29 (i := 1) rfl rfl ?_
    refine zs_callV (n := 1) [2, 3, 4, 5, 6, 7, 8, 58, 59, 60, 61, 62, 63, 64] B (zp_become hl D dA (r 0) g S hR hg) gX1_keep_X0_become rfl ⟨rfl, by decide, by decide, by decide +kernel⟩ rfl (by rfl) rfl rfl rfl (by rfl) ⟨(by exact Nat.le_of_ble_eq_true rfl), (by exact Nat.le_of_ble_eq_true rfl)⟩ (by exact Nat.le_of_ble_eq_true rfl) ⟨(by exact Nat.le_of_ble_eq_true rfl), (by exact Nat.le_of_ble_eq_true rfl)⟩ dX1_keep_30 (by rintro v w ⟨rfl, d9, h9, rfl⟩; rfl) (fun _ _ h => h.elim) (fun _ _ h => h.elim) ?_
    rintro v w ⟨rfl, g1, hg1, rfl⟩
    refine zs_eq (wl' := zq_W 0 (va_up r 0 g1, 0, k) ++ zp_W 58 g) (st' := []) (zq_upk0 r 0 k g g1) rfl rfl rfl ?_
    refine zs_aload_n B dX1_keep_33 (i := 0) rfl rfl ?_
    refine zs_aload_n B dX1_keep_34 (i := 0) rfl rfl ?_
    refine zs_get B fX1_keep_18 rfl rfl dX1_keep_35 ?_
    refine zs_iconst (v := 1) B dX1_keep_38 (by decide) ?_
    refine zs_iadd B dX1_keep_39 ?_
    refine zs_aload_n B dX1_keep_40 (i := 0) rfl rfl ?_
    refine zs_get B fX1_keep_11 rfl rfl dX1_keep_41 ?_
    refine zs_alen (v := 8) B rfl (by decide) (by decide) dX1_keep_44 ?_
    refine zs_icmp_ge (tgt := 57) B dX1_keep_45 (by decide) (fun h => absurd h (show ¬ (8 : Int32) ≤ nI 0 + 1 by decide +kernel)) (fun _ => ?_)
    refine zs_aload_n B dX1_keep_48 (i := 0) rfl rfl ?_
    refine zs_get B fX1_keep_18 rfl rfl dX1_keep_49 ?_
    refine zs_iconst (v := 1) B dX1_keep_52 (by decide) ?_
    refine zs_iadd B dX1_keep_53 ?_
    rw [nI_1]
    refine zs_goto (tgt := 58) B dX1_keep_54 (by decide) ?_
    refine zs_put B (wX1_keep_18 rfl rfl) rfl (Nat.le_of_ble_eq_true rfl) dX1_keep_58 ?_
    refine zs_aload_n B dX1_keep_61 (i := 0) rfl rfl ?_
    refine zs_aload_n B dX1_keep_62 (i := 0) rfl rfl ?_
    refine zs_get B fX1_keep_22 rfl rfl dX1_keep_63 ?_
    refine zs_iconst (v := 1) B dX1_keep_66 (by decide) ?_
    refine zs_iadd B dX1_keep_67 ?_
    refine zs_aload_n B dX1_keep_68 (i := 0) rfl rfl ?_
    refine zs_get B fX1_keep_11 rfl rfl dX1_keep_69 ?_
    refine zs_alen (v := 8) B rfl (by decide) (by decide) dX1_keep_72 ?_
    refine zs_mmin B (by decide +kernel) (by decide +kernel) (by decide +kernel) (by decide +kernel) (Nat.le_of_ble_eq_true rfl) (Nat.le_of_ble_eq_true rfl) (Nat.le_of_ble_eq_true rfl) (Nat.le_refl _) (Nat.le_refl _) dX1_keep_73 ?_
    rw [nI_1, e2]
    refine zs_put B (wX1_keep_22 rfl rfl) rfl (Nat.le_of_ble_eq_true rfl) dX1_keep_76 ?_
    exact zs_vret hA B rfl (by decide) (by decide) ⟨rfl, g1, hg1, by rw [show zq_nx 0 = 1 from rfl]; rfl⟩ dX1_keep_79
  · refine zs_aal B 1 rfl (Or.inl rfl) (by decide) (by decide) rfl (r := 9) (by rfl) dX1_keep_28 ?_
    refine zs_aload_n B dX1_keep_29 (i := 1) rfl rfl ?_
    refine zs_callV (n := 1) [9, 10, 11, 12, 13, 14, 15, 58, 59, 60, 61, 62, 63, 64] B (zp_become hl D dA (r 1) g S hR hg) gX1_keep_X0_become rfl ⟨rfl, by decide, by decide, by decide +kernel⟩ rfl (by rfl) rfl rfl rfl (by rfl) ⟨(by exact Nat.le_of_ble_eq_true rfl), (by exact Nat.le_of_ble_eq_true rfl)⟩ (by exact Nat.le_of_ble_eq_true rfl) ⟨(by exact Nat.le_of_ble_eq_true rfl), (by exact Nat.le_of_ble_eq_true rfl)⟩ dX1_keep_30 (by rintro v w ⟨rfl, d9, h9, rfl⟩; rfl) (fun _ _ h => h.elim) (fun _ _ h => h.elim) ?_
    rintro v w ⟨rfl, g1, hg1, rfl⟩
    refine zs_eq (wl' := zq_W 0 (va_up r 1 g1, 1, k) ++ zp_W 58 g) (st' := []) (zq_upk1 r 1 k g g1) rfl rfl rfl ?_
    refine zs_aload_n B dX1_keep_33 (i := 0) rfl rfl ?_
    refine zs_aload_n B dX1_keep_34 (i := 0) rfl rfl ?_
    refine zs_get B fX1_keep_18 rfl rfl dX1_keep_35 ?_
    refine zs_iconst (v := 1) B dX1_keep_38 (by decide) ?_
    refine zs_iadd B dX1_keep_39 ?_
    refine zs_aload_n B dX1_keep_40 (i := 0) rfl rfl ?_
    refine zs_get B fX1_keep_11 rfl rfl dX1_keep_41 ?_
    refine zs_alen (v := 8) B rfl (by decide) (by decide) dX1_keep_44 ?_
    refine zs_icmp_ge (tgt := 57) B dX1_keep_45 (by decide) (fun h => absurd h (show ¬ (8 : Int32) ≤ nI 1 + 1 by decide +kernel)) (fun _ => ?_)
    refine zs_aload_n B dX1_keep_48 (i := 0) rfl rfl ?_
    refine zs_get B fX1_keep_18 rfl rfl dX1_keep_49 ?_
    refine zs_iconst (v := 1) B dX1_keep_52 (by decide) ?_
    refine zs_iadd B dX1_keep_53 ?_
    rw [nI_1]
    refine zs_goto (tgt := 58) B dX1_keep_54 (by decide) ?_
    refine zs_put B (wX1_keep_18 rfl rfl) rfl (Nat.le_of_ble_eq_true rfl) dX1_keep_58 ?_
    refine zs_aload_n B dX1_keep_61 (i := 0) rfl rfl ?_
    refine zs_aload_n B dX1_keep_62 (i := 0) rfl rfl ?_
    refine zs_get B fX1_keep_22 rfl rfl dX1_keep_63 ?_
    refine zs_iconst (v := 1) B dX1_keep_66 (by decide) ?_
    refine zs_iadd B dX1_keep_67 ?_
    refine zs_aload_n B dX1_keep_68 (i := 0) rfl rfl ?_
    refine zs_get B fX1_keep_11 rfl rfl dX1_keep_69 ?_
    refine zs_alen (v := 8) B rfl (by decide) (by decide) dX1_keep_72 ?_
    refine zs_mmin B (by decide +kernel) (by decide +kernel) (by decide +kernel) (by decide +kernel) (Nat.le_of_ble_eq_true rfl) (Nat.le_of_ble_eq_true rfl) (Nat.le_of_ble_eq_true rfl) (Nat.le_refl _) (Nat.le_refl _) dX1_keep_73 ?_
    rw [nI_1, e2]
    refine zs_put B (wX1_keep_22 rfl rfl) rfl (Nat.le_of_ble_eq_true rfl) dX1_keep_76 ?_
    exact zs_vret hA B rfl (by decide) (by decide) ⟨rfl, g1, hg1, by rw [show zq_nx 1 = 2 from rfl]; rfl⟩ dX1_keep_79
  · refine zs_aal B 2 rfl (Or.inl rfl) (by decide) (by decide) rfl (r := 16) (by rfl) dX1_keep_28 ?_
    refine zs_aload_n B dX1_keep_29 (i := 1) rfl rfl ?_
    refine zs_callV (n := 1) [16, 17, 18, 19, 20, 21, 22, 58, 59, 60, 61, 62, 63, 64] B (zp_become hl D dA (r 2) g S hR hg) gX1_keep_X0_become rfl ⟨rfl, by decide, by decide, by decide +kernel⟩ rfl (by rfl) rfl rfl rfl (by rfl) ⟨(by exact Nat.le_of_ble_eq_true rfl), (by exact Nat.le_of_ble_eq_true rfl)⟩ (by exact Nat.le_of_ble_eq_true rfl) ⟨(by exact Nat.le_of_ble_eq_true rfl), (by exact Nat.le_of_ble_eq_true rfl)⟩ dX1_keep_30 (by rintro v w ⟨rfl, d9, h9, rfl⟩; rfl) (fun _ _ h => h.elim) (fun _ _ h => h.elim) ?_
    rintro v w ⟨rfl, g1, hg1, rfl⟩
    refine zs_eq (wl' := zq_W 0 (va_up r 2 g1, 2, k) ++ zp_W 58 g) (st' := []) (zq_upk2 r 2 k g g1) rfl rfl rfl ?_
    refine zs_aload_n B dX1_keep_33 (i := 0) rfl rfl ?_
    refine zs_aload_n B dX1_keep_34 (i := 0) rfl rfl ?_
    refine zs_get B fX1_keep_18 rfl rfl dX1_keep_35 ?_
    refine zs_iconst (v := 1) B dX1_keep_38 (by decide) ?_
    refine zs_iadd B dX1_keep_39 ?_
    refine zs_aload_n B dX1_keep_40 (i := 0) rfl rfl ?_
    refine zs_get B fX1_keep_11 rfl rfl dX1_keep_41 ?_
    refine zs_alen (v := 8) B rfl (by decide) (by decide) dX1_keep_44 ?_
    refine zs_icmp_ge (tgt := 57) B dX1_keep_45 (by decide) (fun h => absurd h (show ¬ (8 : Int32) ≤ nI 2 + 1 by decide +kernel)) (fun _ => ?_)
    refine zs_aload_n B dX1_keep_48 (i := 0) rfl rfl ?_
    refine zs_get B fX1_keep_18 rfl rfl dX1_keep_49 ?_
    refine zs_iconst (v := 1) B dX1_keep_52 (by decide) ?_
    refine zs_iadd B dX1_keep_53 ?_
    rw [nI_1]
    refine zs_goto (tgt := 58) B dX1_keep_54 (by decide) ?_
    refine zs_put B (wX1_keep_18 rfl rfl) rfl (Nat.le_of_ble_eq_true rfl) dX1_keep_58 ?_
    refine zs_aload_n B dX1_keep_61 (i := 0) rfl rfl ?_
    refine zs_aload_n B dX1_keep_62 (i := 0) rfl rfl ?_
    refine zs_get B fX1_keep_22 rfl rfl dX1_keep_63 ?_
    refine zs_iconst (v := 1) B dX1_keep_66 (by decide) ?_
    refine zs_iadd B dX1_keep_67 ?_
    refine zs_aload_n B dX1_keep_68 (i := 0) rfl rfl ?_
    refine zs_get B fX1_keep_11 rfl rfl dX1_keep_69 ?_
    refine zs_alen (v := 8) B rfl (by decide) (by decide) dX1_keep_72 ?_
    refine zs_mmin B (by decide +kernel) (by decide +kernel) (by decide +kernel) (by decide +kernel) (Nat.le_of_ble_eq_true rfl) (Nat.le_of_ble_eq_true rfl) (Nat.le_of_ble_eq_true rfl) (Nat.le_refl _) (Nat.le_refl _) dX1_keep_73 ?_
    rw [nI_1, e2]
    refine zs_put B (wX1_keep_22 rfl rfl) rfl (Nat.le_of_ble_eq_true rfl) dX1_keep_76 ?_
    exact zs_vret hA B rfl (by decide) (by decide) ⟨rfl, g1, hg1, by rw [show zq_nx 2 = 3 from rfl]; rfl⟩ dX1_keep_79
  · refine zs_aal B 3 rfl (Or.inl rfl) (by decide) (by decide) rfl (r := 23) (by rfl) dX1_keep_28 ?_
    refine zs_aload_n B dX1_keep_29 (i := 1) rfl rfl ?_
    refine zs_callV (n := 1) [23, 24, 25, 26, 27, 28, 29, 58, 59, 60, 61, 62, 63, 64] B (zp_become hl D dA (r 3) g S hR hg) gX1_keep_X0_become rfl ⟨rfl, by decide, by decide, by decide +kernel⟩ rfl (by rfl) rfl rfl rfl (by rfl) ⟨(by exact Nat.le_of_ble_eq_true rfl), (by exact Nat.le_of_ble_eq_true rfl)⟩ (by exact Nat.le_of_ble_eq_true rfl) ⟨(by exact Nat.le_of_ble_eq_true rfl), (by exact Nat.le_of_ble_eq_true rfl)⟩ dX1_keep_30 (by rintro v w ⟨rfl, d9, h9, rfl⟩; rfl) (fun _ _ h => h.elim) (fun _ _ h => h.elim) ?_
    rintro v w ⟨rfl, g1, hg1, rfl⟩
    refine zs_eq (wl' := zq_W 0 (va_up r 3 g1, 3, k) ++ zp_W 58 g) (st' := []) (zq_upk3 r 3 k g g1) rfl rfl rfl ?_
    refine zs_aload_n B dX1_keep_33 (i := 0) rfl rfl ?_
    refine zs_aload_n B dX1_keep_34 (i := 0) rfl rfl ?_
    refine zs_get B fX1_keep_18 rfl rfl dX1_keep_35 ?_
    refine zs_iconst (v := 1) B dX1_keep_38 (by decide) ?_
    refine zs_iadd B dX1_keep_39 ?_
    refine zs_aload_n B dX1_keep_40 (i := 0) rfl rfl ?_
    refine zs_get B fX1_keep_11 rfl rfl dX1_keep_41 ?_
    refine zs_alen (v := 8) B rfl (by decide) (by decide) dX1_keep_44 ?_
    refine zs_icmp_ge (tgt := 57) B dX1_keep_45 (by decide) (fun h => absurd h (show ¬ (8 : Int32) ≤ nI 3 + 1 by decide +kernel)) (fun _ => ?_)
    refine zs_aload_n B dX1_keep_48 (i := 0) rfl rfl ?_
    refine zs_get B fX1_keep_18 rfl rfl dX1_keep_49 ?_
    refine zs_iconst (v := 1) B dX1_keep_52 (by decide) ?_
    refine zs_iadd B dX1_keep_53 ?_
    rw [nI_1]
    refine zs_goto (tgt := 58) B dX1_keep_54 (by decide) ?_
    refine zs_put B (wX1_keep_18 rfl rfl) rfl (Nat.le_of_ble_eq_true rfl) dX1_keep_58 ?_
    refine zs_aload_n B dX1_keep_61 (i := 0) rfl rfl ?_
    refine zs_aload_n B dX1_keep_62 (i := 0) rfl rfl ?_
    refine zs_get B fX1_keep_22 rfl rfl dX1_keep_63 ?_
    refine zs_iconst (v := 1) B dX1_keep_66 (by decide) ?_
    refine zs_iadd B dX1_keep_67 ?_
    refine zs_aload_n B dX1_keep_68 (i := 0) rfl rfl ?_
    refine zs_get B fX1_keep_11 rfl rfl dX1_keep_69 ?_
    refine zs_alen (v := 8) B rfl (by decide) (by decide) dX1_keep_72 ?_
    refine zs_mmin B (by decide +kernel) (by decide +kernel) (by decide +kernel) (by decide +kernel) (Nat.le_of_ble_eq_true rfl) (Nat.le_of_ble_eq_true rfl) (Nat.le_of_ble_eq_true rfl) (Nat.le_refl _) (Nat.le_refl _) dX1_keep_73 ?_
    rw [nI_1, e2]
    refine zs_put B (wX1_keep_22 rfl rfl) rfl (Nat.le_of_ble_eq_true rfl) dX1_keep_76 ?_
    exact zs_vret hA B rfl (by decide) (by decide) ⟨rfl, g1, hg1, by rw [show zq_nx 3 = 4 from rfl]; rfl⟩ dX1_keep_79
  · refine zs_aal B 4 rfl (Or.inl rfl) (by decide) (by decide) rfl (r := 30) (by rfl) dX1_keep_28 ?_
    refine zs_aload_n B dX1_keep_29 (i := 1) rfl rfl ?_
    refine zs_callV (n := 1) [30, 31, 32, 33, 34, 35, 36, 58, 59, 60, 61, 62, 63, 64] B (zp_become hl D dA (r 4) g S hR hg) gX1_keep_X0_become rfl ⟨rfl, by decide, by decide, by decide +kernel⟩ rfl (by rfl) rfl rfl rfl (by rfl) ⟨(by exact Nat.le_of_ble_eq_true rfl), (by exact Nat.le_of_ble_eq_true rfl)⟩ (by exact Nat.le_of_ble_eq_true rfl) ⟨(by exact Nat.le_of_ble_eq_true rfl), (by exact Nat.le_of_ble_eq_true rfl)⟩ dX1_keep_30 (by rintro v w ⟨rfl, d9, h9, rfl⟩; rfl) (fun _ _ h => h.elim) (fun _ _ h => h.elim) ?_
    rintro v w ⟨rfl, g1, hg1, rfl⟩
    refine zs_eq (wl' := zq_W 0 (va_up r 4 g1, 4, k) ++ zp_W 58 g) (st' := []) (zq_upk4 r 4 k g g1) rfl rfl rfl ?_
    refine zs_aload_n B dX1_keep_33 (i := 0) rfl rfl ?_
    refine zs_aload_n B dX1_keep_34 (i := 0) rfl rfl ?_
    refine zs_get B fX1_keep_18 rfl rfl dX1_keep_35 ?_
    refine zs_iconst (v := 1) B dX1_keep_38 (by decide) ?_
    refine zs_iadd B dX1_keep_39 ?_
    refine zs_aload_n B dX1_keep_40 (i := 0) rfl rfl ?_
    refine zs_get B fX1_keep_11 rfl rfl dX1_keep_41 ?_
    refine zs_alen (v := 8) B rfl (by decide) (by decide) dX1_keep_44 ?_
    refine zs_icmp_ge (tgt := 57) B dX1_keep_45 (by decide) (fun h => absurd h (show ¬ (8 : Int32) ≤ nI 4 + 1 by decide +kernel)) (fun _ => ?_)
    refine zs_aload_n B dX1_keep_48 (i := 0) rfl rfl ?_
    refine zs_get B fX1_keep_18 rfl rfl dX1_keep_49 ?_
    refine zs_iconst (v := 1) B dX1_keep_52 (by decide) ?_
    refine zs_iadd B dX1_keep_53 ?_
    rw [nI_1]
    refine zs_goto (tgt := 58) B dX1_keep_54 (by decide) ?_
    refine zs_put B (wX1_keep_18 rfl rfl) rfl (Nat.le_of_ble_eq_true rfl) dX1_keep_58 ?_
    refine zs_aload_n B dX1_keep_61 (i := 0) rfl rfl ?_
    refine zs_aload_n B dX1_keep_62 (i := 0) rfl rfl ?_
    refine zs_get B fX1_keep_22 rfl rfl dX1_keep_63 ?_
    refine zs_iconst (v := 1) B dX1_keep_66 (by decide) ?_
    refine zs_iadd B dX1_keep_67 ?_
    refine zs_aload_n B dX1_keep_68 (i := 0) rfl rfl ?_
    refine zs_get B fX1_keep_11 rfl rfl dX1_keep_69 ?_
    refine zs_alen (v := 8) B rfl (by decide) (by decide) dX1_keep_72 ?_
    refine zs_mmin B (by decide +kernel) (by decide +kernel) (by decide +kernel) (by decide +kernel) (Nat.le_of_ble_eq_true rfl) (Nat.le_of_ble_eq_true rfl) (Nat.le_of_ble_eq_true rfl) (Nat.le_refl _) (Nat.le_refl _) dX1_keep_73 ?_
    rw [nI_1, e2]
    refine zs_put B (wX1_keep_22 rfl rfl) rfl (Nat.le_of_ble_eq_true rfl) dX1_keep_76 ?_
    exact zs_vret hA B rfl (by decide) (by decide) ⟨rfl, g1, hg1, by rw [show zq_nx 4 = 5 from rfl]; rfl⟩ dX1_keep_79
  · refine zs_aal B 5 rfl (Or.inl rfl) (by decide) (by decide) rfl (r := 37) (by rfl) dX1_keep_28 ?_
    refine zs_aload_n B dX1_keep_29 (i := 1) rfl rfl ?_
    refine zs_callV (n := 1) [37, 38, 39, 40, 41, 42, 43, 58, 59, 60, 61, 62, 63, 64] B (zp_become hl D dA (r 5) g S hR hg) gX1_keep_X0_become rfl ⟨rfl, by decide, by decide, by decide +kernel⟩ rfl (by rfl) rfl rfl rfl (by rfl) ⟨(by exact Nat.le_of_ble_eq_true rfl), (by exact Nat.le_of_ble_eq_true rfl)⟩ (by exact Nat.le_of_ble_eq_true rfl) ⟨(by exact Nat.le_of_ble_eq_true rfl), (by exact Nat.le_of_ble_eq_true rfl)⟩ dX1_keep_30 (by rintro v w ⟨rfl, d9, h9, rfl⟩; rfl) (fun _ _ h => h.elim) (fun _ _ h => h.elim) ?_
    rintro v w ⟨rfl, g1, hg1, rfl⟩
    refine zs_eq (wl' := zq_W 0 (va_up r 5 g1, 5, k) ++ zp_W 58 g) (st' := []) (zq_upk5 r 5 k g g1) rfl rfl rfl ?_
    refine zs_aload_n B dX1_keep_33 (i := 0) rfl rfl ?_
    refine zs_aload_n B dX1_keep_34 (i := 0) rfl rfl ?_
    refine zs_get B fX1_keep_18 rfl rfl dX1_keep_35 ?_
    refine zs_iconst (v := 1) B dX1_keep_38 (by decide) ?_
    refine zs_iadd B dX1_keep_39 ?_
    refine zs_aload_n B dX1_keep_40 (i := 0) rfl rfl ?_
    refine zs_get B fX1_keep_11 rfl rfl dX1_keep_41 ?_
    refine zs_alen (v := 8) B rfl (by decide) (by decide) dX1_keep_44 ?_
    refine zs_icmp_ge (tgt := 57) B dX1_keep_45 (by decide) (fun h => absurd h (show ¬ (8 : Int32) ≤ nI 5 + 1 by decide +kernel)) (fun _ => ?_)
    refine zs_aload_n B dX1_keep_48 (i := 0) rfl rfl ?_
    refine zs_get B fX1_keep_18 rfl rfl dX1_keep_49 ?_
    refine zs_iconst (v := 1) B dX1_keep_52 (by decide) ?_
    refine zs_iadd B dX1_keep_53 ?_
    rw [nI_1]
    refine zs_goto (tgt := 58) B dX1_keep_54 (by decide) ?_
    refine zs_put B (wX1_keep_18 rfl rfl) rfl (Nat.le_of_ble_eq_true rfl) dX1_keep_58 ?_
    refine zs_aload_n B dX1_keep_61 (i := 0) rfl rfl ?_
    refine zs_aload_n B dX1_keep_62 (i := 0) rfl rfl ?_
    refine zs_get B fX1_keep_22 rfl rfl dX1_keep_63 ?_
    refine zs_iconst (v := 1) B dX1_keep_66 (by decide) ?_
    refine zs_iadd B dX1_keep_67 ?_
    refine zs_aload_n B dX1_keep_68 (i := 0) rfl rfl ?_
    refine zs_get B fX1_keep_11 rfl rfl dX1_keep_69 ?_
    refine zs_alen (v := 8) B rfl (by decide) (by decide) dX1_keep_72 ?_
    refine zs_mmin B (by decide +kernel) (by decide +kernel) (by decide +kernel) (by decide +kernel) (Nat.le_of_ble_eq_true rfl) (Nat.le_of_ble_eq_true rfl) (Nat.le_of_ble_eq_true rfl) (Nat.le_refl _) (Nat.le_refl _) dX1_keep_73 ?_
    rw [nI_1, e2]
    refine zs_put B (wX1_keep_22 rfl rfl) rfl (Nat.le_of_ble_eq_true rfl) dX1_keep_76 ?_
    exact zs_vret hA B rfl (by decide) (by decide) ⟨rfl, g1, hg1, by rw [show zq_nx 5 = 6 from rfl]; rfl⟩ dX1_keep_79
  · refine zs_aal B 6 rfl (Or.inl rfl) (by decide) (by decide) rfl (r := 44) (by rfl) dX1_keep_28 ?_
    refine zs_aload_n B dX1_keep_29 (i := 1) rfl rfl ?_
    refine zs_callV (n := 1) [44, 45, 46, 47, 48, 49, 50, 58, 59, 60, 61, 62, 63, 64] B (zp_become hl D dA (r 6) g S hR hg) gX1_keep_X0_become rfl ⟨rfl, by decide, by decide, by decide +kernel⟩ rfl (by rfl) rfl rfl rfl (by rfl) ⟨(by exact Nat.le_of_ble_eq_true rfl), (by exact Nat.le_of_ble_eq_true rfl)⟩ (by exact Nat.le_of_ble_eq_true rfl) ⟨(by exact Nat.le_of_ble_eq_true rfl), (by exact Nat.le_of_ble_eq_true rfl)⟩ dX1_keep_30 (by rintro v w ⟨rfl, d9, h9, rfl⟩; rfl) (fun _ _ h => h.elim) (fun _ _ h => h.elim) ?_
    rintro v w ⟨rfl, g1, hg1, rfl⟩
    refine zs_eq (wl' := zq_W 0 (va_up r 6 g1, 6, k) ++ zp_W 58 g) (st' := []) (zq_upk6 r 6 k g g1) rfl rfl rfl ?_
    refine zs_aload_n B dX1_keep_33 (i := 0) rfl rfl ?_
    refine zs_aload_n B dX1_keep_34 (i := 0) rfl rfl ?_
    refine zs_get B fX1_keep_18 rfl rfl dX1_keep_35 ?_
    refine zs_iconst (v := 1) B dX1_keep_38 (by decide) ?_
    refine zs_iadd B dX1_keep_39 ?_
    refine zs_aload_n B dX1_keep_40 (i := 0) rfl rfl ?_
    refine zs_get B fX1_keep_11 rfl rfl dX1_keep_41 ?_
    refine zs_alen (v := 8) B rfl (by decide) (by decide) dX1_keep_44 ?_
    refine zs_icmp_ge (tgt := 57) B dX1_keep_45 (by decide) (fun h => absurd h (show ¬ (8 : Int32) ≤ nI 6 + 1 by decide +kernel)) (fun _ => ?_)
    refine zs_aload_n B dX1_keep_48 (i := 0) rfl rfl ?_
    refine zs_get B fX1_keep_18 rfl rfl dX1_keep_49 ?_
    refine zs_iconst (v := 1) B dX1_keep_52 (by decide) ?_
    refine zs_iadd B dX1_keep_53 ?_
    rw [nI_1]
    refine zs_goto (tgt := 58) B dX1_keep_54 (by decide) ?_
    refine zs_put B (wX1_keep_18 rfl rfl) rfl (Nat.le_of_ble_eq_true rfl) dX1_keep_58 ?_
    refine zs_aload_n B dX1_keep_61 (i := 0) rfl rfl ?_
    refine zs_aload_n B dX1_keep_62 (i := 0) rfl rfl ?_
    refine zs_get B fX1_keep_22 rfl rfl dX1_keep_63 ?_
    refine zs_iconst (v := 1) B dX1_keep_66 (by decide) ?_
    refine zs_iadd B dX1_keep_67 ?_
    refine zs_aload_n B dX1_keep_68 (i := 0) rfl rfl ?_
    refine zs_get B fX1_keep_11 rfl rfl dX1_keep_69 ?_
    refine zs_alen (v := 8) B rfl (by decide) (by decide) dX1_keep_72 ?_
    refine zs_mmin B (by decide +kernel) (by decide +kernel) (by decide +kernel) (by decide +kernel) (Nat.le_of_ble_eq_true rfl) (Nat.le_of_ble_eq_true rfl) (Nat.le_of_ble_eq_true rfl) (Nat.le_refl _) (Nat.le_refl _) dX1_keep_73 ?_
    rw [nI_1, e2]
    refine zs_put B (wX1_keep_22 rfl rfl) rfl (Nat.le_of_ble_eq_true rfl) dX1_keep_76 ?_
    exact zs_vret hA B rfl (by decide) (by decide) ⟨rfl, g1, hg1, by rw [show zq_nx 6 = 7 from rfl]; rfl⟩ dX1_keep_79
  · refine zs_aal B 7 rfl (Or.inl rfl) (by decide) (by decide) rfl (r := 51) (by rfl) dX1_keep_28 ?_
    refine zs_aload_n B dX1_keep_29 (i := 1) rfl rfl ?_
    refine zs_callV (n := 1) [51, 52, 53, 54, 55, 56, 57, 58, 59, 60, 61, 62, 63, 64] B (zp_become hl D dA (r 7) g S hR hg) gX1_keep_X0_become rfl ⟨rfl, by decide, by decide, by decide +kernel⟩ rfl (by rfl) rfl rfl rfl (by rfl) ⟨(by exact Nat.le_of_ble_eq_true rfl), (by exact Nat.le_of_ble_eq_true rfl)⟩ (by exact Nat.le_of_ble_eq_true rfl) ⟨(by exact Nat.le_of_ble_eq_true rfl), (by exact Nat.le_of_ble_eq_true rfl)⟩ dX1_keep_30 (by rintro v w ⟨rfl, d9, h9, rfl⟩; rfl) (fun _ _ h => h.elim) (fun _ _ h => h.elim) ?_
    rintro v w ⟨rfl, g1, hg1, rfl⟩
    refine zs_eq (wl' := zq_W 0 (va_up r 7 g1, 7, k) ++ zp_W 58 g) (st' := []) (zq_upk7 r 7 k g g1) rfl rfl rfl ?_
    refine zs_aload_n B dX1_keep_33 (i := 0) rfl rfl ?_
    refine zs_aload_n B dX1_keep_34 (i := 0) rfl rfl ?_
    refine zs_get B fX1_keep_18 rfl rfl dX1_keep_35 ?_
    refine zs_iconst (v := 1) B dX1_keep_38 (by decide) ?_
    refine zs_iadd B dX1_keep_39 ?_
    refine zs_aload_n B dX1_keep_40 (i := 0) rfl rfl ?_
    refine zs_get B fX1_keep_11 rfl rfl dX1_keep_41 ?_
    refine zs_alen (v := 8) B rfl (by decide) (by decide) dX1_keep_44 ?_
    refine zs_icmp_ge (tgt := 57) B dX1_keep_45 (by decide) (fun _ => ?_) (fun h => absurd (show (8 : Int32) ≤ nI 7 + 1 by decide +kernel) h)
    refine zs_iconst (v := 0) B dX1_keep_57 (by decide) ?_
    rw [← nI_0]
    refine zs_put B (wX1_keep_18 rfl rfl) rfl (Nat.le_of_ble_eq_true rfl) dX1_keep_58 ?_
    refine zs_aload_n B dX1_keep_61 (i := 0) rfl rfl ?_
    refine zs_aload_n B dX1_keep_62 (i := 0) rfl rfl ?_
    refine zs_get B fX1_keep_22 rfl rfl dX1_keep_63 ?_
    refine zs_iconst (v := 1) B dX1_keep_66 (by decide) ?_
    refine zs_iadd B dX1_keep_67 ?_
    refine zs_aload_n B dX1_keep_68 (i := 0) rfl rfl ?_
    refine zs_get B fX1_keep_11 rfl rfl dX1_keep_69 ?_
    refine zs_alen (v := 8) B rfl (by decide) (by decide) dX1_keep_72 ?_
    refine zs_mmin B (by decide +kernel) (by decide +kernel) (by decide +kernel) (by decide +kernel) (Nat.le_of_ble_eq_true rfl) (Nat.le_of_ble_eq_true rfl) (Nat.le_of_ble_eq_true rfl) (Nat.le_refl _) (Nat.le_refl _) dX1_keep_73 ?_
    rw [nI_1, e2]
    refine zs_put B (wX1_keep_22 rfl rfl) rfl (Nat.le_of_ble_eq_true rfl) dX1_keep_76 ?_
    exact zs_vret hA B rfl (by decide) (by decide) ⟨rfl, g1, hg1, by rw [show zq_nx 7 = 0 from rfl]; rfl⟩ dX1_keep_79
set_option maxHeartbeats 4000000 in
theorem zq_bringBack {l : Launch} (hl : l.stackTraces = false) (D : va_G) (dA : Nat → ClassId) (r : Nat → zp_D) (f k : Nat) (hf : f < 8) (hk0 : 0 < k) (hk : k ≤ 8) (g : zp_D) (S : zp_L) (hR : zp_R S (r (zq_pv f))) (hg : zp_ok (r (zq_pv f))) : zw_Sp l D dA yX1_bringBack wsX1_bringBack 4 0 0 [.ref 0, .ref 58] (zq_W 0 (r, f, k) ++ zp_W 58 g) (fun v w => v = none ∧ ∃ g', zp_R S g' ∧ w = zq_W 0 (r, zq_pv f, k - 1) ++ zp_W 58 g') (fun _ _ => False) := by
  refine zw_start hl (by decide) rfl rfl (Nat.le_of_ble_eq_true rfl) ?_
  intro pr e s m args below meth c ad A hA B
  have hk1 : nI k - 1 = nI (k - 1) := by
    obtain ⟨z, rfl⟩ : ∃ z, k = z + 1 := ⟨k - 1, by omega⟩
    exact nI_pred z
  rcases (show f = 0 ∨ f = 1 ∨ f = 2 ∨ f = 3 ∨ f = 4 ∨ f = 5 ∨ f = 6 ∨ f = 7 by omega) with rfl | rfl | rfl | rfl | rfl | rfl | rfl | rfl
  · refine zs_aload_n B dX1_bringBack_0 (i := 0) rfl rfl ?_
    refine zs_get B fX1_bringBack_18 rfl rfl dX1_bringBack_1 ?_
    refine zs_if_le (tgt := 16) B dX1_bringBack_4 (by decide) (fun _ => ?_) (fun h => absurd (show nI 0 ≤ 0 by decide +kernel) h)
    refine zs_aload_n B dX1_bringBack_16 (i := 0) rfl rfl ?_
    refine zs_get B fX1_bringBack_11 rfl rfl dX1_bringBack_17 ?_
    refine zs_alen (v := 8) B rfl (by decide) (by decide) dX1_bringBack_20 ?_
    refine zs_iconst (v := 1) B dX1_bringBack_21 (by decide) ?_
    refine zs_isub B dX1_bringBack_22 ?_
    rw [show (8 : Int32) - 1 = nI 7 by decide +kernel]
    refine zs_istore_n B dX1_bringBack_23 (i := 2) rfl (by decide) rfl ?_
    refine zs_aload_n B dX1_bringBack_24 (i := 0) rfl rfl ?_
    refine zs_get B fX1_bringBack_22 rfl rfl dX1_bringBack_25 ?_
    refine zs_if_eq (tgt := 44) B dX1_bringBack_28 (by decide) (fun h => absurd h (nI_ne0 (n := k) hk0 (by omega))) (fun _ => ?_)
    refine zs_iload_n B dX1_bringBack_31 (i := 2) rfl rfl ?_
    refine zs_if_lt (tgt := 44) B dX1_bringBack_32 (by decide) (fun h => absurd h (show ¬ nI 7 < 0 by decide +kernel)) (fun _ => ?_)
    refine zs_iload_n B dX1_bringBack_35 (i := 2) rfl rfl ?_
    refine zs_aload_n B dX1_bringBack_36 (i := 0) rfl rfl ?_
    refine zs_get B fX1_bringBack_11 rfl rfl dX1_bringBack_37 ?_
    refine zs_alen (v := 8) B rfl (by decide) (by decide) dX1_bringBack_40 ?_
    refine zs_icmp_lt (tgt := 45) B dX1_bringBack_41 (by decide) (fun _ => ?_) (fun h => absurd (show nI 7 < (8 : Int32) by decide +kernel) h)
    refine zs_aload_n B dX1_bringBack_45 (i := 1) rfl rfl ?_
    refine zs_aload_n B dX1_bringBack_46 (i := 0) rfl rfl ?_
    refine zs_get B fX1_bringBack_11 rfl rfl dX1_bringBack_47 ?_
    refine zs_iload_n B dX1_bringBack_50 (i := 2) rfl rfl ?_
    refine zs_aal B 7 rfl (Or.inl rfl) (by decide) (by decide) rfl (r := 51) (by rfl) dX1_bringBack_51 ?_
    refine zs_callV (n := 1) [58, 59, 60, 61, 62, 63, 64, 51, 52, 53, 54, 55, 56, 57] B (zp_become hl D dA g (r 7) S hR hg) gX1_bringBack_X0_become rfl ⟨rfl, by decide, by decide, by decide +kernel⟩ rfl (by rfl) rfl rfl rfl (by rfl) ⟨(by exact Nat.le_of_ble_eq_true rfl), (by exact Nat.le_of_ble_eq_true rfl)⟩ (by exact Nat.le_of_ble_eq_true rfl) ⟨(by exact Nat.le_of_ble_eq_true rfl), (by exact Nat.le_of_ble_eq_true rfl)⟩ dX1_bringBack_52 (by rintro v w ⟨rfl, d9, h9, rfl⟩; rfl) (fun _ _ h => h.elim) (fun _ _ h => h.elim) ?_
    rintro v w ⟨rfl, g1, hg1, rfl⟩
    refine zs_eq (wl' := zq_W 0 (r, 0, k) ++ zp_W 58 g1) (st' := []) (zq_upb7 r 0 k g g1) rfl rfl rfl ?_
    refine zs_aload_n B dX1_bringBack_55 (i := 0) rfl rfl ?_
    refine zs_iload_n B dX1_bringBack_56 (i := 2) rfl rfl ?_
    refine zs_put B (wX1_bringBack_18 rfl rfl) rfl (Nat.le_of_ble_eq_true rfl) dX1_bringBack_57 ?_
    refine zs_aload_n B dX1_bringBack_60 (i := 0) rfl rfl ?_
    refine zs_dup B dX1_bringBack_61 rfl ?_
    refine zs_get B fX1_bringBack_22 rfl rfl dX1_bringBack_62 ?_
    refine zs_iconst (v := 1) B dX1_bringBack_65 (by decide) ?_
    refine zs_isub B dX1_bringBack_66 ?_
    rw [hk1]
    refine zs_put B (wX1_bringBack_22 rfl rfl) rfl (Nat.le_of_ble_eq_true rfl) dX1_bringBack_67 ?_
    exact zs_vret hA B rfl (by decide) (by decide) ⟨rfl, g1, hg1, by rw [show zq_pv 0 = 7 from rfl]; rfl⟩ dX1_bringBack_70
  · refine zs_aload_n B dX1_bringBack_0 (i := 0) rfl rfl ?_
    refine zs_get B fX1_bringBack_18 rfl rfl dX1_bringBack_1 ?_
    refine zs_if_le (tgt := 16) B dX1_bringBack_4 (by decide) (fun h => absurd h (show ¬ nI 1 ≤ 0 by decide +kernel)) (fun _ => ?_)
    refine zs_aload_n B dX1_bringBack_7 (i := 0) rfl rfl ?_
    refine zs_get B fX1_bringBack_18 rfl rfl dX1_bringBack_8 ?_
    refine zs_iconst (v := 1) B dX1_bringBack_11 (by decide) ?_
    refine zs_isub B dX1_bringBack_12 ?_
    rw [show nI 1 - 1 = nI 0 by decide +kernel]
    refine zs_goto (tgt := 23) B dX1_bringBack_13 (by decide) ?_
    refine zs_istore_n B dX1_bringBack_23 (i := 2) rfl (by decide) rfl ?_
    refine zs_aload_n B dX1_bringBack_24 (i := 0) rfl rfl ?_
    refine zs_get B fX1_bringBack_22 rfl rfl dX1_bringBack_25 ?_
    refine zs_if_eq (tgt := 44) B dX1_bringBack_28 (by decide) (fun h => absurd h (nI_ne0 (n := k) hk0 (by omega))) (fun _ => ?_)
    refine zs_iload_n B dX1_bringBack_31 (i := 2) rfl rfl ?_
    refine zs_if_lt (tgt := 44) B dX1_bringBack_32 (by decide) (fun h => absurd h (show ¬ nI 0 < 0 by decide +kernel)) (fun _ => ?_)
    refine zs_iload_n B dX1_bringBack_35 (i := 2) rfl rfl ?_
    refine zs_aload_n B dX1_bringBack_36 (i := 0) rfl rfl ?_
    refine zs_get B fX1_bringBack_11 rfl rfl dX1_bringBack_37 ?_
    refine zs_alen (v := 8) B rfl (by decide) (by decide) dX1_bringBack_40 ?_
    refine zs_icmp_lt (tgt := 45) B dX1_bringBack_41 (by decide) (fun _ => ?_) (fun h => absurd (show nI 0 < (8 : Int32) by decide +kernel) h)
    refine zs_aload_n B dX1_bringBack_45 (i := 1) rfl rfl ?_
    refine zs_aload_n B dX1_bringBack_46 (i := 0) rfl rfl ?_
    refine zs_get B fX1_bringBack_11 rfl rfl dX1_bringBack_47 ?_
    refine zs_iload_n B dX1_bringBack_50 (i := 2) rfl rfl ?_
    refine zs_aal B 0 rfl (Or.inl rfl) (by decide) (by decide) rfl (r := 2) (by rfl) dX1_bringBack_51 ?_
    refine zs_callV (n := 1) [58, 59, 60, 61, 62, 63, 64, 2, 3, 4, 5, 6, 7, 8] B (zp_become hl D dA g (r 0) S hR hg) gX1_bringBack_X0_become rfl ⟨rfl, by decide, by decide, by decide +kernel⟩ rfl (by rfl) rfl rfl rfl (by rfl) ⟨(by exact Nat.le_of_ble_eq_true rfl), (by exact Nat.le_of_ble_eq_true rfl)⟩ (by exact Nat.le_of_ble_eq_true rfl) ⟨(by exact Nat.le_of_ble_eq_true rfl), (by exact Nat.le_of_ble_eq_true rfl)⟩ dX1_bringBack_52 (by rintro v w ⟨rfl, d9, h9, rfl⟩; rfl) (fun _ _ h => h.elim) (fun _ _ h => h.elim) ?_
    rintro v w ⟨rfl, g1, hg1, rfl⟩
    refine zs_eq (wl' := zq_W 0 (r, 1, k) ++ zp_W 58 g1) (st' := []) (zq_upb0 r 1 k g g1) rfl rfl rfl ?_
    refine zs_aload_n B dX1_bringBack_55 (i := 0) rfl rfl ?_
    refine zs_iload_n B dX1_bringBack_56 (i := 2) rfl rfl ?_
    refine zs_put B (wX1_bringBack_18 rfl rfl) rfl (Nat.le_of_ble_eq_true rfl) dX1_bringBack_57 ?_
    refine zs_aload_n B dX1_bringBack_60 (i := 0) rfl rfl ?_
    refine zs_dup B dX1_bringBack_61 rfl ?_
    refine zs_get B fX1_bringBack_22 rfl rfl dX1_bringBack_62 ?_
    refine zs_iconst (v := 1) B dX1_bringBack_65 (by decide) ?_
    refine zs_isub B dX1_bringBack_66 ?_
    rw [hk1]
    refine zs_put B (wX1_bringBack_22 rfl rfl) rfl (Nat.le_of_ble_eq_true rfl) dX1_bringBack_67 ?_
    exact zs_vret hA B rfl (by decide) (by decide) ⟨rfl, g1, hg1, by rw [show zq_pv 1 = 0 from rfl]; rfl⟩ dX1_bringBack_70
  · refine zs_aload_n B dX1_bringBack_0 (i := 0) rfl rfl ?_
    refine zs_get B fX1_bringBack_18 rfl rfl dX1_bringBack_1 ?_
    refine zs_if_le (tgt := 16) B dX1_bringBack_4 (by decide) (fun h => absurd h (show ¬ nI 2 ≤ 0 by decide +kernel)) (fun _ => ?_)
    refine zs_aload_n B dX1_bringBack_7 (i := 0) rfl rfl ?_
    refine zs_get B fX1_bringBack_18 rfl rfl dX1_bringBack_8 ?_
    refine zs_iconst (v := 1) B dX1_bringBack_11 (by decide) ?_
    refine zs_isub B dX1_bringBack_12 ?_
    rw [show nI 2 - 1 = nI 1 by decide +kernel]
    refine zs_goto (tgt := 23) B dX1_bringBack_13 (by decide) ?_
    refine zs_istore_n B dX1_bringBack_23 (i := 2) rfl (by decide) rfl ?_
    refine zs_aload_n B dX1_bringBack_24 (i := 0) rfl rfl ?_
    refine zs_get B fX1_bringBack_22 rfl rfl dX1_bringBack_25 ?_
    refine zs_if_eq (tgt := 44) B dX1_bringBack_28 (by decide) (fun h => absurd h (nI_ne0 (n := k) hk0 (by omega))) (fun _ => ?_)
    refine zs_iload_n B dX1_bringBack_31 (i := 2) rfl rfl ?_
    refine zs_if_lt (tgt := 44) B dX1_bringBack_32 (by decide) (fun h => absurd h (show ¬ nI 1 < 0 by decide +kernel)) (fun _ => ?_)
    refine zs_iload_n B dX1_bringBack_35 (i := 2) rfl rfl ?_
    refine zs_aload_n B dX1_bringBack_36 (i := 0) rfl rfl ?_
    refine zs_get B fX1_bringBack_11 rfl rfl dX1_bringBack_37 ?_
    refine zs_alen (v := 8) B rfl (by decide) (by decide) dX1_bringBack_40 ?_
    refine zs_icmp_lt (tgt := 45) B dX1_bringBack_41 (by decide) (fun _ => ?_) (fun h => absurd (show nI 1 < (8 : Int32) by decide +kernel) h)
    refine zs_aload_n B dX1_bringBack_45 (i := 1) rfl rfl ?_
    refine zs_aload_n B dX1_bringBack_46 (i := 0) rfl rfl ?_
    refine zs_get B fX1_bringBack_11 rfl rfl dX1_bringBack_47 ?_
    refine zs_iload_n B dX1_bringBack_50 (i := 2) rfl rfl ?_
    refine zs_aal B 1 rfl (Or.inl rfl) (by decide) (by decide) rfl (r := 9) (by rfl) dX1_bringBack_51 ?_
    refine zs_callV (n := 1) [58, 59, 60, 61, 62, 63, 64, 9, 10, 11, 12, 13, 14, 15] B (zp_become hl D dA g (r 1) S hR hg) gX1_bringBack_X0_become rfl ⟨rfl, by decide, by decide, by decide +kernel⟩ rfl (by rfl) rfl rfl rfl (by rfl) ⟨(by exact Nat.le_of_ble_eq_true rfl), (by exact Nat.le_of_ble_eq_true rfl)⟩ (by exact Nat.le_of_ble_eq_true rfl) ⟨(by exact Nat.le_of_ble_eq_true rfl), (by exact Nat.le_of_ble_eq_true rfl)⟩ dX1_bringBack_52 (by rintro v w ⟨rfl, d9, h9, rfl⟩; rfl) (fun _ _ h => h.elim) (fun _ _ h => h.elim) ?_
    rintro v w ⟨rfl, g1, hg1, rfl⟩
    refine zs_eq (wl' := zq_W 0 (r, 2, k) ++ zp_W 58 g1) (st' := []) (zq_upb1 r 2 k g g1) rfl rfl rfl ?_
    refine zs_aload_n B dX1_bringBack_55 (i := 0) rfl rfl ?_
    refine zs_iload_n B dX1_bringBack_56 (i := 2) rfl rfl ?_
    refine zs_put B (wX1_bringBack_18 rfl rfl) rfl (Nat.le_of_ble_eq_true rfl) dX1_bringBack_57 ?_
    refine zs_aload_n B dX1_bringBack_60 (i := 0) rfl rfl ?_
    refine zs_dup B dX1_bringBack_61 rfl ?_
    refine zs_get B fX1_bringBack_22 rfl rfl dX1_bringBack_62 ?_
    refine zs_iconst (v := 1) B dX1_bringBack_65 (by decide) ?_
    refine zs_isub B dX1_bringBack_66 ?_
    rw [hk1]
    refine zs_put B (wX1_bringBack_22 rfl rfl) rfl (Nat.le_of_ble_eq_true rfl) dX1_bringBack_67 ?_
    exact zs_vret hA B rfl (by decide) (by decide) ⟨rfl, g1, hg1, by rw [show zq_pv 2 = 1 from rfl]; rfl⟩ dX1_bringBack_70
  · refine zs_aload_n B dX1_bringBack_0 (i := 0) rfl rfl ?_
    refine zs_get B fX1_bringBack_18 rfl rfl dX1_bringBack_1 ?_
    refine zs_if_le (tgt := 16) B dX1_bringBack_4 (by decide) (fun h => absurd h (show ¬ nI 3 ≤ 0 by decide +kernel)) (fun _ => ?_)
    refine zs_aload_n B dX1_bringBack_7 (i := 0) rfl rfl ?_
    refine zs_get B fX1_bringBack_18 rfl rfl dX1_bringBack_8 ?_
    refine zs_iconst (v := 1) B dX1_bringBack_11 (by decide) ?_
    refine zs_isub B dX1_bringBack_12 ?_
    rw [show nI 3 - 1 = nI 2 by decide +kernel]
    refine zs_goto (tgt := 23) B dX1_bringBack_13 (by decide) ?_
    refine zs_istore_n B dX1_bringBack_23 (i := 2) rfl (by decide) rfl ?_
    refine zs_aload_n B dX1_bringBack_24 (i := 0) rfl rfl ?_
    refine zs_get B fX1_bringBack_22 rfl rfl dX1_bringBack_25 ?_
    refine zs_if_eq (tgt := 44) B dX1_bringBack_28 (by decide) (fun h => absurd h (nI_ne0 (n := k) hk0 (by omega))) (fun _ => ?_)
    refine zs_iload_n B dX1_bringBack_31 (i := 2) rfl rfl ?_
    refine zs_if_lt (tgt := 44) B dX1_bringBack_32 (by decide) (fun h => absurd h (show ¬ nI 2 < 0 by decide +kernel)) (fun _ => ?_)
    refine zs_iload_n B dX1_bringBack_35 (i := 2) rfl rfl ?_
    refine zs_aload_n B dX1_bringBack_36 (i := 0) rfl rfl ?_
    refine zs_get B fX1_bringBack_11 rfl rfl dX1_bringBack_37 ?_
    refine zs_alen (v := 8) B rfl (by decide) (by decide) dX1_bringBack_40 ?_
    refine zs_icmp_lt (tgt := 45) B dX1_bringBack_41 (by decide) (fun _ => ?_) (fun h => absurd (show nI 2 < (8 : Int32) by decide +kernel) h)
    refine zs_aload_n B dX1_bringBack_45 (i := 1) rfl rfl ?_
    refine zs_aload_n B dX1_bringBack_46 (i := 0) rfl rfl ?_
    refine zs_get B fX1_bringBack_11 rfl rfl dX1_bringBack_47 ?_
    refine zs_iload_n B dX1_bringBack_50 (i := 2) rfl rfl ?_
    refine zs_aal B 2 rfl (Or.inl rfl) (by decide) (by decide) rfl (r := 16) (by rfl) dX1_bringBack_51 ?_
    refine zs_callV (n := 1) [58, 59, 60, 61, 62, 63, 64, 16, 17, 18, 19, 20, 21, 22] B (zp_become hl D dA g (r 2) S hR hg) gX1_bringBack_X0_become rfl ⟨rfl, by decide, by decide, by decide +kernel⟩ rfl (by rfl) rfl rfl rfl (by rfl) ⟨(by exact Nat.le_of_ble_eq_true rfl), (by exact Nat.le_of_ble_eq_true rfl)⟩ (by exact Nat.le_of_ble_eq_true rfl) ⟨(by exact Nat.le_of_ble_eq_true rfl), (by exact Nat.le_of_ble_eq_true rfl)⟩ dX1_bringBack_52 (by rintro v w ⟨rfl, d9, h9, rfl⟩; rfl) (fun _ _ h => h.elim) (fun _ _ h => h.elim) ?_
    rintro v w ⟨rfl, g1, hg1, rfl⟩
    refine zs_eq (wl' := zq_W 0 (r, 3, k) ++ zp_W 58 g1) (st' := []) (zq_upb2 r 3 k g g1) rfl rfl rfl ?_
    refine zs_aload_n B dX1_bringBack_55 (i := 0) rfl rfl ?_
    refine zs_iload_n B dX1_bringBack_56 (i := 2) rfl rfl ?_
    refine zs_put B (wX1_bringBack_18 rfl rfl) rfl (Nat.le_of_ble_eq_true rfl) dX1_bringBack_57 ?_
    refine zs_aload_n B dX1_bringBack_60 (i := 0) rfl rfl ?_
    refine zs_dup B dX1_bringBack_61 rfl ?_
    refine zs_get B fX1_bringBack_22 rfl rfl dX1_bringBack_62 ?_
    refine zs_iconst (v := 1) B dX1_bringBack_65 (by decide) ?_
    refine zs_isub B dX1_bringBack_66 ?_
    rw [hk1]
    refine zs_put B (wX1_bringBack_22 rfl rfl) rfl (Nat.le_of_ble_eq_true rfl) dX1_bringBack_67 ?_
    exact zs_vret hA B rfl (by decide) (by decide) ⟨rfl, g1, hg1, by rw [show zq_pv 3 = 2 from rfl]; rfl⟩ dX1_bringBack_70
  · refine zs_aload_n B dX1_bringBack_0 (i := 0) rfl rfl ?_
    refine zs_get B fX1_bringBack_18 rfl rfl dX1_bringBack_1 ?_
    refine zs_if_le (tgt := 16) B dX1_bringBack_4 (by decide) (fun h => absurd h (show ¬ nI 4 ≤ 0 by decide +kernel)) (fun _ => ?_)
    refine zs_aload_n B dX1_bringBack_7 (i := 0) rfl rfl ?_
    refine zs_get B fX1_bringBack_18 rfl rfl dX1_bringBack_8 ?_
    refine zs_iconst (v := 1) B dX1_bringBack_11 (by decide) ?_
    refine zs_isub B dX1_bringBack_12 ?_
    rw [show nI 4 - 1 = nI 3 by decide +kernel]
    refine zs_goto (tgt := 23) B dX1_bringBack_13 (by decide) ?_
    refine zs_istore_n B dX1_bringBack_23 (i := 2) rfl (by decide) rfl ?_
    refine zs_aload_n B dX1_bringBack_24 (i := 0) rfl rfl ?_
    refine zs_get B fX1_bringBack_22 rfl rfl dX1_bringBack_25 ?_
    refine zs_if_eq (tgt := 44) B dX1_bringBack_28 (by decide) (fun h => absurd h (nI_ne0 (n := k) hk0 (by omega))) (fun _ => ?_)
    refine zs_iload_n B dX1_bringBack_31 (i := 2) rfl rfl ?_
    refine zs_if_lt (tgt := 44) B dX1_bringBack_32 (by decide) (fun h => absurd h (show ¬ nI 3 < 0 by decide +kernel)) (fun _ => ?_)
    refine zs_iload_n B dX1_bringBack_35 (i := 2) rfl rfl ?_
    refine zs_aload_n B dX1_bringBack_36 (i := 0) rfl rfl ?_
    refine zs_get B fX1_bringBack_11 rfl rfl dX1_bringBack_37 ?_
    refine zs_alen (v := 8) B rfl (by decide) (by decide) dX1_bringBack_40 ?_
    refine zs_icmp_lt (tgt := 45) B dX1_bringBack_41 (by decide) (fun _ => ?_) (fun h => absurd (show nI 3 < (8 : Int32) by decide +kernel) h)
    refine zs_aload_n B dX1_bringBack_45 (i := 1) rfl rfl ?_
    refine zs_aload_n B dX1_bringBack_46 (i := 0) rfl rfl ?_
    refine zs_get B fX1_bringBack_11 rfl rfl dX1_bringBack_47 ?_
    refine zs_iload_n B dX1_bringBack_50 (i := 2) rfl rfl ?_
    refine zs_aal B 3 rfl (Or.inl rfl) (by decide) (by decide) rfl (r := 23) (by rfl) dX1_bringBack_51 ?_
    refine zs_callV (n := 1) [58, 59, 60, 61, 62, 63, 64, 23, 24, 25, 26, 27, 28, 29] B (zp_become hl D dA g (r 3) S hR hg) gX1_bringBack_X0_become rfl ⟨rfl, by decide, by decide, by decide +kernel⟩ rfl (by rfl) rfl rfl rfl (by rfl) ⟨(by exact Nat.le_of_ble_eq_true rfl), (by exact Nat.le_of_ble_eq_true rfl)⟩ (by exact Nat.le_of_ble_eq_true rfl) ⟨(by exact Nat.le_of_ble_eq_true rfl), (by exact Nat.le_of_ble_eq_true rfl)⟩ dX1_bringBack_52 (by rintro v w ⟨rfl, d9, h9, rfl⟩; rfl) (fun _ _ h => h.elim) (fun _ _ h => h.elim) ?_
    rintro v w ⟨rfl, g1, hg1, rfl⟩
    refine zs_eq (wl' := zq_W 0 (r, 4, k) ++ zp_W 58 g1) (st' := []) (zq_upb3 r 4 k g g1) rfl rfl rfl ?_
    refine zs_aload_n B dX1_bringBack_55 (i := 0) rfl rfl ?_
    refine zs_iload_n B dX1_bringBack_56 (i := 2) rfl rfl ?_
    refine zs_put B (wX1_bringBack_18 rfl rfl) rfl (Nat.le_of_ble_eq_true rfl) dX1_bringBack_57 ?_
    refine zs_aload_n B dX1_bringBack_60 (i := 0) rfl rfl ?_
    refine zs_dup B dX1_bringBack_61 rfl ?_
    refine zs_get B fX1_bringBack_22 rfl rfl dX1_bringBack_62 ?_
    refine zs_iconst (v := 1) B dX1_bringBack_65 (by decide) ?_
    refine zs_isub B dX1_bringBack_66 ?_
    rw [hk1]
    refine zs_put B (wX1_bringBack_22 rfl rfl) rfl (Nat.le_of_ble_eq_true rfl) dX1_bringBack_67 ?_
    exact zs_vret hA B rfl (by decide) (by decide) ⟨rfl, g1, hg1, by rw [show zq_pv 4 = 3 from rfl]; rfl⟩ dX1_bringBack_70
  · refine zs_aload_n B dX1_bringBack_0 (i := 0) rfl rfl ?_
    refine zs_get B fX1_bringBack_18 rfl rfl dX1_bringBack_1 ?_
    refine zs_if_le (tgt := 16) B dX1_bringBack_4 (by decide) (fun h => absurd h (show ¬ nI 5 ≤ 0 by decide +kernel)) (fun _ => ?_)
    refine zs_aload_n B dX1_bringBack_7 (i := 0) rfl rfl ?_
    refine zs_get B fX1_bringBack_18 rfl rfl dX1_bringBack_8 ?_
    refine zs_iconst (v := 1) B dX1_bringBack_11 (by decide) ?_
    refine zs_isub B dX1_bringBack_12 ?_
    rw [show nI 5 - 1 = nI 4 by decide +kernel]
    refine zs_goto (tgt := 23) B dX1_bringBack_13 (by decide) ?_
    refine zs_istore_n B dX1_bringBack_23 (i := 2) rfl (by decide) rfl ?_
    refine zs_aload_n B dX1_bringBack_24 (i := 0) rfl rfl ?_
    refine zs_get B fX1_bringBack_22 rfl rfl dX1_bringBack_25 ?_
    refine zs_if_eq (tgt := 44) B dX1_bringBack_28 (by decide) (fun h => absurd h (nI_ne0 (n := k) hk0 (by omega))) (fun _ => ?_)
    refine zs_iload_n B dX1_bringBack_31 (i := 2) rfl rfl ?_
    refine zs_if_lt (tgt := 44) B dX1_bringBack_32 (by decide) (fun h => absurd h (show ¬ nI 4 < 0 by decide +kernel)) (fun _ => ?_)
    refine zs_iload_n B dX1_bringBack_35 (i := 2) rfl rfl ?_
    refine zs_aload_n B dX1_bringBack_36 (i := 0) rfl rfl ?_
    refine zs_get B fX1_bringBack_11 rfl rfl dX1_bringBack_37 ?_
    refine zs_alen (v := 8) B rfl (by decide) (by decide) dX1_bringBack_40 ?_
    refine zs_icmp_lt (tgt := 45) B dX1_bringBack_41 (by decide) (fun _ => ?_) (fun h => absurd (show nI 4 < (8 : Int32) by decide +kernel) h)
    refine zs_aload_n B dX1_bringBack_45 (i := 1) rfl rfl ?_
    refine zs_aload_n B dX1_bringBack_46 (i := 0) rfl rfl ?_
    refine zs_get B fX1_bringBack_11 rfl rfl dX1_bringBack_47 ?_
    refine zs_iload_n B dX1_bringBack_50 (i := 2) rfl rfl ?_
    refine zs_aal B 4 rfl (Or.inl rfl) (by decide) (by decide) rfl (r := 30) (by rfl) dX1_bringBack_51 ?_
    refine zs_callV (n := 1) [58, 59, 60, 61, 62, 63, 64, 30, 31, 32, 33, 34, 35, 36] B (zp_become hl D dA g (r 4) S hR hg) gX1_bringBack_X0_become rfl ⟨rfl, by decide, by decide, by decide +kernel⟩ rfl (by rfl) rfl rfl rfl (by rfl) ⟨(by exact Nat.le_of_ble_eq_true rfl), (by exact Nat.le_of_ble_eq_true rfl)⟩ (by exact Nat.le_of_ble_eq_true rfl) ⟨(by exact Nat.le_of_ble_eq_true rfl), (by exact Nat.le_of_ble_eq_true rfl)⟩ dX1_bringBack_52 (by rintro v w ⟨rfl, d9, h9, rfl⟩; rfl) (fun _ _ h => h.elim) (fun _ _ h => h.elim) ?_
    rintro v w ⟨rfl, g1, hg1, rfl⟩
    refine zs_eq (wl' := zq_W 0 (r, 5, k) ++ zp_W 58 g1) (st' := []) (zq_upb4 r 5 k g g1) rfl rfl rfl ?_
    refine zs_aload_n B dX1_bringBack_55 (i := 0) rfl rfl ?_
    refine zs_iload_n B dX1_bringBack_56 (i := 2) rfl rfl ?_
    refine zs_put B (wX1_bringBack_18 rfl rfl) rfl (Nat.le_of_ble_eq_true rfl) dX1_bringBack_57 ?_
    refine zs_aload_n B dX1_bringBack_60 (i := 0) rfl rfl ?_
    refine zs_dup B dX1_bringBack_61 rfl ?_
    refine zs_get B fX1_bringBack_22 rfl rfl dX1_bringBack_62 ?_
    refine zs_iconst (v := 1) B dX1_bringBack_65 (by decide) ?_
    refine zs_isub B dX1_bringBack_66 ?_
    rw [hk1]
    refine zs_put B (wX1_bringBack_22 rfl rfl) rfl (Nat.le_of_ble_eq_true rfl) dX1_bringBack_67 ?_
    exact zs_vret hA B rfl (by decide) (by decide) ⟨rfl, g1, hg1, by rw [show zq_pv 5 = 4 from rfl]; rfl⟩ dX1_bringBack_70
  · refine zs_aload_n B dX1_bringBack_0 (i := 0) rfl rfl ?_
    refine zs_get B fX1_bringBack_18 rfl rfl dX1_bringBack_1 ?_
    refine zs_if_le (tgt := 16) B dX1_bringBack_4 (by decide) (fun h => absurd h (show ¬ nI 6 ≤ 0 by decide +kernel)) (fun _ => ?_)
    refine zs_aload_n B dX1_bringBack_7 (i := 0) rfl rfl ?_
    refine zs_get B fX1_bringBack_18 rfl rfl dX1_bringBack_8 ?_
    refine zs_iconst (v := 1) B dX1_bringBack_11 (by decide) ?_
    refine zs_isub B dX1_bringBack_12 ?_
    rw [show nI 6 - 1 = nI 5 by decide +kernel]
    refine zs_goto (tgt := 23) B dX1_bringBack_13 (by decide) ?_
    refine zs_istore_n B dX1_bringBack_23 (i := 2) rfl (by decide) rfl ?_
    refine zs_aload_n B dX1_bringBack_24 (i := 0) rfl rfl ?_
    refine zs_get B fX1_bringBack_22 rfl rfl dX1_bringBack_25 ?_
    refine zs_if_eq (tgt := 44) B dX1_bringBack_28 (by decide) (fun h => absurd h (nI_ne0 (n := k) hk0 (by omega))) (fun _ => ?_)
    refine zs_iload_n B dX1_bringBack_31 (i := 2) rfl rfl ?_
    refine zs_if_lt (tgt := 44) B dX1_bringBack_32 (by decide) (fun h => absurd h (show ¬ nI 5 < 0 by decide +kernel)) (fun _ => ?_)
    refine zs_iload_n B dX1_bringBack_35 (i := 2) rfl rfl ?_
    refine zs_aload_n B dX1_bringBack_36 (i := 0) rfl rfl ?_
    refine zs_get B fX1_bringBack_11 rfl rfl dX1_bringBack_37 ?_
    refine zs_alen (v := 8) B rfl (by decide) (by decide) dX1_bringBack_40 ?_
    refine zs_icmp_lt (tgt := 45) B dX1_bringBack_41 (by decide) (fun _ => ?_) (fun h => absurd (show nI 5 < (8 : Int32) by decide +kernel) h)
    refine zs_aload_n B dX1_bringBack_45 (i := 1) rfl rfl ?_
    refine zs_aload_n B dX1_bringBack_46 (i := 0) rfl rfl ?_
    refine zs_get B fX1_bringBack_11 rfl rfl dX1_bringBack_47 ?_
    refine zs_iload_n B dX1_bringBack_50 (i := 2) rfl rfl ?_
    refine zs_aal B 5 rfl (Or.inl rfl) (by decide) (by decide) rfl (r := 37) (by rfl) dX1_bringBack_51 ?_
    refine zs_callV (n := 1) [58, 59, 60, 61, 62, 63, 64, 37, 38, 39, 40, 41, 42, 43] B (zp_become hl D dA g (r 5) S hR hg) gX1_bringBack_X0_become rfl ⟨rfl, by decide, by decide, by decide +kernel⟩ rfl (by rfl) rfl rfl rfl (by rfl) ⟨(by exact Nat.le_of_ble_eq_true rfl), (by exact Nat.le_of_ble_eq_true rfl)⟩ (by exact Nat.le_of_ble_eq_true rfl) ⟨(by exact Nat.le_of_ble_eq_true rfl), (by exact Nat.le_of_ble_eq_true rfl)⟩ dX1_bringBack_52 (by rintro v w ⟨rfl, d9, h9, rfl⟩; rfl) (fun _ _ h => h.elim) (fun _ _ h => h.elim) ?_
    rintro v w ⟨rfl, g1, hg1, rfl⟩
    refine zs_eq (wl' := zq_W 0 (r, 6, k) ++ zp_W 58 g1) (st' := []) (zq_upb5 r 6 k g g1) rfl rfl rfl ?_
    refine zs_aload_n B dX1_bringBack_55 (i := 0) rfl rfl ?_
    refine zs_iload_n B dX1_bringBack_56 (i := 2) rfl rfl ?_
    refine zs_put B (wX1_bringBack_18 rfl rfl) rfl (Nat.le_of_ble_eq_true rfl) dX1_bringBack_57 ?_
    refine zs_aload_n B dX1_bringBack_60 (i := 0) rfl rfl ?_
    refine zs_dup B dX1_bringBack_61 rfl ?_
    refine zs_get B fX1_bringBack_22 rfl rfl dX1_bringBack_62 ?_
    refine zs_iconst (v := 1) B dX1_bringBack_65 (by decide) ?_
    refine zs_isub B dX1_bringBack_66 ?_
    rw [hk1]
    refine zs_put B (wX1_bringBack_22 rfl rfl) rfl (Nat.le_of_ble_eq_true rfl) dX1_bringBack_67 ?_
    exact zs_vret hA B rfl (by decide) (by decide) ⟨rfl, g1, hg1, by rw [show zq_pv 6 = 5 from rfl]; rfl⟩ dX1_bringBack_70
  · refine zs_aload_n B dX1_bringBack_0 (i := 0) rfl rfl ?_
    refine zs_get B fX1_bringBack_18 rfl rfl dX1_bringBack_1 ?_
    refine zs_if_le (tgt := 16) B dX1_bringBack_4 (by decide) (fun h => absurd h (show ¬ nI 7 ≤ 0 by decide +kernel)) (fun _ => ?_)
    refine zs_aload_n B dX1_bringBack_7 (i := 0) rfl rfl ?_
    refine zs_get B fX1_bringBack_18 rfl rfl dX1_bringBack_8 ?_
    refine zs_iconst (v := 1) B dX1_bringBack_11 (by decide) ?_
    refine zs_isub B dX1_bringBack_12 ?_
    rw [show nI 7 - 1 = nI 6 by decide +kernel]
    refine zs_goto (tgt := 23) B dX1_bringBack_13 (by decide) ?_
    refine zs_istore_n B dX1_bringBack_23 (i := 2) rfl (by decide) rfl ?_
    refine zs_aload_n B dX1_bringBack_24 (i := 0) rfl rfl ?_
    refine zs_get B fX1_bringBack_22 rfl rfl dX1_bringBack_25 ?_
    refine zs_if_eq (tgt := 44) B dX1_bringBack_28 (by decide) (fun h => absurd h (nI_ne0 (n := k) hk0 (by omega))) (fun _ => ?_)
    refine zs_iload_n B dX1_bringBack_31 (i := 2) rfl rfl ?_
    refine zs_if_lt (tgt := 44) B dX1_bringBack_32 (by decide) (fun h => absurd h (show ¬ nI 6 < 0 by decide +kernel)) (fun _ => ?_)
    refine zs_iload_n B dX1_bringBack_35 (i := 2) rfl rfl ?_
    refine zs_aload_n B dX1_bringBack_36 (i := 0) rfl rfl ?_
    refine zs_get B fX1_bringBack_11 rfl rfl dX1_bringBack_37 ?_
    refine zs_alen (v := 8) B rfl (by decide) (by decide) dX1_bringBack_40 ?_
    refine zs_icmp_lt (tgt := 45) B dX1_bringBack_41 (by decide) (fun _ => ?_) (fun h => absurd (show nI 6 < (8 : Int32) by decide +kernel) h)
    refine zs_aload_n B dX1_bringBack_45 (i := 1) rfl rfl ?_
    refine zs_aload_n B dX1_bringBack_46 (i := 0) rfl rfl ?_
    refine zs_get B fX1_bringBack_11 rfl rfl dX1_bringBack_47 ?_
    refine zs_iload_n B dX1_bringBack_50 (i := 2) rfl rfl ?_
    refine zs_aal B 6 rfl (Or.inl rfl) (by decide) (by decide) rfl (r := 44) (by rfl) dX1_bringBack_51 ?_
    refine zs_callV (n := 1) [58, 59, 60, 61, 62, 63, 64, 44, 45, 46, 47, 48, 49, 50] B (zp_become hl D dA g (r 6) S hR hg) gX1_bringBack_X0_become rfl ⟨rfl, by decide, by decide, by decide +kernel⟩ rfl (by rfl) rfl rfl rfl (by rfl) ⟨(by exact Nat.le_of_ble_eq_true rfl), (by exact Nat.le_of_ble_eq_true rfl)⟩ (by exact Nat.le_of_ble_eq_true rfl) ⟨(by exact Nat.le_of_ble_eq_true rfl), (by exact Nat.le_of_ble_eq_true rfl)⟩ dX1_bringBack_52 (by rintro v w ⟨rfl, d9, h9, rfl⟩; rfl) (fun _ _ h => h.elim) (fun _ _ h => h.elim) ?_
    rintro v w ⟨rfl, g1, hg1, rfl⟩
    refine zs_eq (wl' := zq_W 0 (r, 7, k) ++ zp_W 58 g1) (st' := []) (zq_upb6 r 7 k g g1) rfl rfl rfl ?_
    refine zs_aload_n B dX1_bringBack_55 (i := 0) rfl rfl ?_
    refine zs_iload_n B dX1_bringBack_56 (i := 2) rfl rfl ?_
    refine zs_put B (wX1_bringBack_18 rfl rfl) rfl (Nat.le_of_ble_eq_true rfl) dX1_bringBack_57 ?_
    refine zs_aload_n B dX1_bringBack_60 (i := 0) rfl rfl ?_
    refine zs_dup B dX1_bringBack_61 rfl ?_
    refine zs_get B fX1_bringBack_22 rfl rfl dX1_bringBack_62 ?_
    refine zs_iconst (v := 1) B dX1_bringBack_65 (by decide) ?_
    refine zs_isub B dX1_bringBack_66 ?_
    rw [hk1]
    refine zs_put B (wX1_bringBack_22 rfl rfl) rfl (Nat.le_of_ble_eq_true rfl) dX1_bringBack_67 ?_
    exact zs_vret hA B rfl (by decide) (by decide) ⟨rfl, g1, hg1, by rw [show zq_pv 7 = 6 from rfl]; rfl⟩ dX1_bringBack_70
end
section
/-! a call with the whole world -/
section ZC0
variable {p : Program} {l : Launch} {e : Env} {R : Room} {s : State} {m : MethodId} {args : Array Value} {below : List Frame} {meth : Method} {c : Code} {Q : State → Prop} {cc : ByteArray} {nL : Nat} {ret : Option FieldType} {own nm : String} {Ts : List Cond} {tb : List ExceptionTableEntry} {D : va_G} {dA : Nat → ClassId} {A : Nat → Prop} {ad0 : Nat → Nat} {n0 cells slots pc : Nat} {wl : List zw_E} {lv : List (Option Value)} {rest : List Value}
theorem zw_callPre0 {as : List Value} {ad : Nat → Nat} {H : Heap} {locs : List Loc} (B : zw_B p l s m args meth c cc nL ret own nm Ts tb D dA A) (hP : va_P D vwCl (zw_of dA ad wl) H) (hD : va_D A (zw_of dA ad wl)) (hS : va_S A s.heap H locs) :
    PreS s H (zw_Pc D dA as wl ad H.size) (as.map (zw_cv ad)) ∧ (∀ q, zw_A ad wl.length H.size q → A q) := by
  have hD0 := zw_D_iff.mp hD
  have hAA : ∀ q, zw_A ad wl.length H.size q → A q := by
    rintro q (⟨j, hj, rfl⟩ | h)
    · exact hD0.2 j hj
    · exact B.2.2.2.2.2.2.2.2.2.1 q (Nat.le_trans hS.1 h)
  refine ⟨⟨?_, ?_⟩, hAA⟩
  · rintro a U g mk ⟨q0, q1, q2, q3, q4, q5⟩
    exact ⟨q0, q1, q2, q3, zw_K.same (s := U) (U := U.calling g mk a) rfl q4, vx_Zq.moved (Vm.Alike.refl U.vm) q5.1, vx_Zq.moved (Vm.Alike.refl U.vm) q5.2⟩
  · intro U hU hW
    have hz : zw_Z A U H := ⟨vx_Zq.moved hW.alike (B.2.2.2.2.2.2.2.1.1.kept hS.2.1), vx_Zq.moved hW.alike (B.2.2.2.2.2.2.2.1.2.kept hS.2.1)⟩
    refine ⟨rfl, by rw [hU], by rw [hU]; exact hP, zw_D_iff.mpr ⟨hD0.1, fun _ _ => trivial⟩, zw_K.warm hW B.2.2.2.2.2.2.1, ?_, ?_⟩
    · rw [hU]; exact vx_Zq.narrow hz.1 hAA
    · rw [hU]; exact vx_Zq.narrow hz.2 hAA
theorem zs_callV0 {y : MethodName} {ws' ws'' : List Cond} {bytes : ByteArray} {maxL idx n fr mc ms : Nat} {ret' : Option FieldType} {as : List Value} {b : Nat} {post : Option Value → List zw_E → Prop} {px : String → List zw_E → Prop} {C : String} {T9 : u_T} {N9 ci : Nat} {fs : List Value} (B : zw_B p l s m args meth c cc nL ret own nm Ts tb D dA A) (hM : zw_Sp l D dA y ws' fr mc ms (.ref b :: as) wl post px)
    (gg : GoodIn Ts (wsV own idx C y ws')) (hw : ws' = Cond.code y bytes maxL ret' :: ws'') (hd : y.cls = C ∧ y.cls ≠ "java/lang/invoke/MethodHandle" ∧ y.cls ≠ "java/lang/invoke/VarHandle" ∧ (parseMethodDescriptor y.desc).map (fun d => d.parameters.length) = some n) (hn : as.length = n)
    (hb : wl[b]? = some (.inr (ci, fs))) (hci : vwCl[ci]? = some (C, T9, N9)) {st : List Value} (hst : st = as.reverse ++ .ref b :: rest) (hR : fr + 1 ≤ R.frames ∧ 8 + (maxL + 11) + 36 * fr ≤ R.locals) (hrest : (rest.map fun v => v.category).sum ≤ 8) (hc : cells + mc ≤ R.cells ∧ slots + ms ≤ R.slots)
    (hdg : decode cc pc = .ok (.invokevirtual idx, 3)) (hlen : ∀ v wl', post v wl' → wl'.length = wl.length) (hlx : ∀ E wl', px E wl' → wl'.length = wl.length)
    (kx : ∀ E wl', px E wl' → zw_x p l e R s m args below meth c Q D dA A ad0 n0 nL (cells + mc) (slots + ms) E wl' pc lv rest)
    (kk : ∀ v wl', post v wl' → zw_k p l e R s m args below meth c Q D dA A ad0 n0 nL (cells + mc) (slots + ms) wl' (pc + 3) lv (v.toList ++ rest)) :
    zw_k p l e R s m args below meth c Q D dA A ad0 n0 nL cells slots wl pc lv st := fun ad H locs ls a1 a2 a3 hP hD hS hl => by
  obtain ⟨hp, hAA⟩ := zw_callPre0 (as := .ref b :: as) B hP hD hS
  subst hst
  have hrec := va_recv (q := (C, T9, N9)) B.2.2.2.2.2.2.1.1 hP hci (zw_of_at hb)
  have hr : vx_Run p l e R s m args below meth c H locs cells slots mc ms (F0 m pc ls ((as.reverse ++ .ref b :: rest).map (zw_cv ad))) (rest.map (zw_cv ad)) (zw_Qc D dA wl ad H.size post (Value.ref (ad b) :: as.map (zw_cv ad)).toArray) (zw_XC D dA wl ad H.size px) (zw_A ad wl.length H.size) := by
    refine vx_runV (As := as.map (zw_cv ad)) (C := C) (n := n) (rm := zw_rm fr mc ms) ⟨B.1, B.2.1, B.2.2.2.1, B.2.2.2.2.1, B.2.2.2.2.2.1⟩ (hM ad H.size) (cwV n B.2.2.2.2.2.1 gg hw rfl rfl hd hR) ⟨hp.1, hrec, hp.2⟩ rfl (by rw [List.length_map]; exact hn) hl.1 ?_ (zw_rest8 hrest) hdg hc
    show (as.reverse ++ .ref b :: rest).map (zw_cv ad) = _
    rw [List.map_append, List.map_reverse]
    rfl
  have hD0 := zw_D_iff.mp hD
  intro T hT X
  rcases hr T hT X with ⟨v, st₀, t, T', L, h0, X', hL, e1, e2, ⟨⟨v', wl', ad', hv, hpost, b1, b2, b3, hP1, hD1⟩, hF⟩, stp⟩ | ⟨q, st₀, t, T', L, E, ce, h0, X', hL, e1, e2, ⟨⟨wl', ad', hpost, b1, b2, b3, hP1, hD1⟩, hF⟩, hce, hcv, hcl, stp⟩
  · have hlw := hlen _ _ hpost
    have e3 := b2 hlw
    subst e3
    cases hv
    obtain ⟨k1, k2, k3⟩ := vx_keep h0 e1 hS (fun q _ h => hAA q h) hAA hL hF
    have hw := kk v' wl' hpost ad' T'.heap (locs ++ L) ls a1 (by rw [hlw]; exact a2) (by rw [hlw]; exact a3) (by rw [e1]; exact hP1) (zw_D_iff.mpr (by rw [hlw]; exact hD0)) k3 hl
    have e5 : (v'.toList ++ rest).map (zw_cv ad') = (v'.map (zw_cv ad')).toList ++ rest.map (zw_cv ad') := by
      cases v' with
      | none => rfl
      | some v' => simp
    rw [e5] at hw
    obtain ⟨t2, q1, q2⟩ := hw T' rfl X'
    exact ⟨t2, stp t2 q1, q2⟩
  · have hlw := hlx _ _ hpost
    have e3 := b2 hlw
    subst e3
    obtain ⟨k1, k2, k3⟩ := vx_keep h0 e1 hS (fun q _ h => hAA q h) hAA hL hF
    obtain ⟨t2, q1, q2⟩ := kx E wl' hpost ad' T'.heap (locs ++ L) ls q ce a1 (by rw [hlw]; exact a2) (by rw [hlw]; exact a3) (by rw [e1]; exact hP1) (zw_D_iff.mpr (by rw [hlw]; exact hD0)) k3 hl (by rw [e1]; exact hce) hcv hcl T' rfl X'
    exact ⟨t2, stp.trans q1, q2⟩
end ZC0
theorem zw_sel_of {wl : List zw_E} {is : List Nat} {wlc es : List zw_E} (h : wlc.map (zw_rE is) = es) (h2 : is.map (fun i => wl[i]?) = es.map some) : zw_sel wl is wlc := by
  unfold zw_sel
  rw [h2, ← h, List.map_map]
  rfl
/-- looking up a block -/
theorem zw_look : ∀ (Y X1 X2 : List zw_E), (List.range' X1.length Y.length).map (fun i => (X1 ++ (Y ++ X2))[i]?) = Y.map some
  | [], _, _ => rfl
  | y :: Y, X1, X2 => by
    have ih := zw_look Y (X1 ++ [y]) X2
    rw [List.length_append, show [y].length = 1 from rfl, List.append_assoc, List.singleton_append] at ih
    show (X1 ++ (y :: Y ++ X2))[X1.length]? :: (List.range' (X1.length + 1) Y.length).map (fun i => (X1 ++ (y :: (Y ++ X2)))[i]?) = some y :: Y.map some
    rw [ih, List.getElem?_append_right (Nat.le_refl _), Nat.sub_self]
    rfl
theorem zw_look1 {X1 Y X2 : List zw_E} {is : List Nat} (h1 : is = List.range' X1.length Y.length) : is.map (fun i => (X1 ++ (Y ++ X2))[i]?) = Y.map some := by
  rw [h1]; exact zw_look Y X1 X2
/-! the book -/
abbrev zb_D : Type := zp_D × zq_D × zt_D × zr_D
def zb_o : zw_E := .inr (4, [.ref 1, .ref 8, .ref 66, .ref 67])
def zt_W1 (t : zt_D) : List zw_E := [.inr (3, [.int t.1, .int t.2.1, .int t.2.2.1, .int t.2.2.2])]
def zb_W (x : zb_D) : List zw_E := zb_o :: (zp_W 1 x.1 ++ (zq_W 8 x.2.1 ++ (zt_W x.2.2.1 ++ zr_W 67 x.2.2.2)))
theorem zb_upP (x : zb_D) (g : zp_D) : zw_back (zb_W x) [1, 2, 3, 4, 5, 6, 7] ((zp_W 0 g).map (zw_rE [1, 2, 3, 4, 5, 6, 7])) = zb_W (g, x.2) := by
  have h1 : (zp_W 0 g).map (zw_rE [1, 2, 3, 4, 5, 6, 7]) = zp_W 1 g := rfl
  rw [h1]
  exact zw_put1 (X1 := [zb_o]) (Y := zp_W 1 x.1) (Y' := zp_W 1 g) (X2 := zq_W 8 x.2.1 ++ (zt_W x.2.2.1 ++ zr_W 67 x.2.2.2)) (is := [1, 2, 3, 4, 5, 6, 7]) rfl rfl
theorem zb_upT (x : zb_D) (t : zt_D) : zw_back (zb_W x) [66] ((zt_W t).map (zw_rE [66])) = zb_W (x.1, x.2.1, t, x.2.2.2) := by
  have h := zw_put1 (X1 := zb_o :: (zp_W 1 x.1 ++ zq_W 8 x.2.1)) (Y := zt_W x.2.2.1) (Y' := zt_W t) (X2 := zr_W 67 x.2.2.2) (is := [66]) rfl rfl
  simp only [List.cons_append, List.append_assoc] at h
  exact h
theorem zb_upR (x : zb_D) (d : zr_D) : zw_back (zb_W x) [67, 68, 69] ((zr_W 0 d).map (zw_rE [67, 68, 69])) = zb_W (x.1, x.2.1, x.2.2.1, d) := by
  have h := zw_put1 (X1 := zb_o :: (zp_W 1 x.1 ++ (zq_W 8 x.2.1 ++ zt_W x.2.2.1))) (Y := zr_W 67 x.2.2.2) (Y' := zr_W 67 d) (X2 := []) (is := [67, 68, 69]) rfl rfl
  simp only [List.cons_append, List.append_assoc, List.append_nil] at h
  exact h
abbrev zb_is : List Nat := [8, 9, 10, 11, 12, 13, 14, 15, 16, 17, 18, 19, 20, 21, 22, 23, 24, 25, 26, 27, 28, 29, 30, 31, 32, 33, 34, 35, 36, 37, 38, 39, 40, 41, 42, 43, 44, 45, 46, 47, 48, 49, 50, 51, 52, 53, 54, 55, 56, 57, 58, 59, 60, 61, 62, 63, 64, 65]
abbrev zb_isK : List Nat := [8, 9, 10, 11, 12, 13, 14, 15, 16, 17, 18, 19, 20, 21, 22, 23, 24, 25, 26, 27, 28, 29, 30, 31, 32, 33, 34, 35, 36, 37, 38, 39, 40, 41, 42, 43, 44, 45, 46, 47, 48, 49, 50, 51, 52, 53, 54, 55, 56, 57, 58, 59, 60, 61, 62, 63, 64, 65, 1, 2, 3, 4, 5, 6, 7]
theorem zq_pg_rn (is : List Nat) (i : Nat) (h : ∀ k, k < 8 → zw_ix is (2 + 7 * k) = i + 2 + 7 * k) : (fun j => (zq_pg 0 j).map (zw_ix is)) = zq_pg i := by
  have h0 := h 0 (by omega)
  have h1 := h 1 (by omega)
  have h2 := h 2 (by omega)
  have h3 := h 3 (by omega)
  have h4 := h 4 (by omega)
  have h5 := h 5 (by omega)
  have h6 := h 6 (by omega)
  have h7 := h 7 (by omega)
  funext j
  unfold zq_pg va_up
  by_cases e7 : j = 7
  · simp only [e7, if_pos]; exact congrArg some h7
  · by_cases e6 : j = 6
    · simp only [e6, if_pos]; exact congrArg some h6
    · by_cases e5 : j = 5
      · simp only [e5, if_pos]; exact congrArg some h5
      · by_cases e4 : j = 4
        · simp only [e4, if_pos]; exact congrArg some h4
        · by_cases e3 : j = 3
          · simp only [e3, if_pos]; exact congrArg some h3
          · by_cases e2 : j = 2
            · simp only [e2, if_pos]; exact congrArg some h2
            · by_cases e1 : j = 1
              · simp only [e1, if_pos]; exact congrArg some h1
              · by_cases e0 : j = 0
                · simp only [e0, if_pos]; exact congrArg some h0
                · simp only [e7, e6, e5, e4, e3, e2, e1, e0, if_false]; rfl
theorem zq_rn (q : zq_D) : (zq_W 0 q).map (zw_rE zb_is) = zq_W 8 q := by
  have h := zq_pg_rn zb_is 8 (fun k hk => co_dec (N := 8) (P := fun k => zw_ix zb_is (2 + 7 * k) = 8 + 2 + 7 * k) (by decide +kernel) hk)
  show zw_rE zb_is (.inr (1, _)) :: (.inl (3, 8, .inr (.inr (.inr (.inr (fun j => (zq_pg 0 j).map (zw_ix zb_is)))))) : zw_E) :: List.map (zw_rE zb_is) _ = _
  rw [h]
  rfl
theorem zq_rnK (q : zq_D) (g : zp_D) : (zq_W 0 q ++ zp_W 58 g).map (zw_rE zb_isK) = zq_W 8 q ++ zp_W 1 g := by
  have h := zq_pg_rn zb_isK 8 (fun k hk => co_dec (N := 8) (P := fun k => zw_ix zb_isK (2 + 7 * k) = 8 + 2 + 7 * k) (by decide +kernel) hk)
  show zw_rE zb_isK (.inr (1, _)) :: (.inl (3, 8, .inr (.inr (.inr (.inr (fun j => (zq_pg 0 j).map (zw_ix zb_isK)))))) : zw_E) :: List.map (zw_rE zb_isK) _ = _
  rw [h]
  rfl
theorem zb_selQ (x : zb_D) : zw_sel (zb_W x) zb_is (zq_W 0 x.2.1) := by
  refine zw_sel_of (zq_rn x.2.1) ?_
  have h := zw_look1 (X1 := zb_o :: zp_W 1 x.1) (Y := zq_W 8 x.2.1) (X2 := zt_W x.2.2.1 ++ zr_W 67 x.2.2.2) (is := zb_is) rfl
  simp only [List.cons_append] at h
  exact h
theorem zb_lookP (x : zb_D) : [1, 2, 3, 4, 5, 6, 7].map (fun i => (zb_W x)[i]?) = (zp_W 1 x.1).map some := rfl
theorem zb_selK (x : zb_D) : zw_sel (zb_W x) zb_isK (zq_W 0 x.2.1 ++ zp_W 58 x.1) := by
  refine zw_sel_of (zq_rnK x.2.1 x.1) ?_
  have h := zw_look1 (X1 := zb_o :: zp_W 1 x.1) (Y := zq_W 8 x.2.1) (X2 := zt_W x.2.2.1 ++ zr_W 67 x.2.2.2) (is := zb_is) rfl
  simp only [List.cons_append] at h
  show (zb_is ++ [1, 2, 3, 4, 5, 6, 7]).map (fun i => (zb_W x)[i]?) = (zq_W 8 x.2.1 ++ zp_W 1 x.1).map some
  rw [List.map_append, List.map_append]
  exact congr (congrArg _ h) (zb_lookP x)
theorem zb_upQ (x : zb_D) : zw_back (zb_W x) zb_is ((zq_W 0 x.2.1).map (zw_rE zb_is)) = zb_W x := by
  rw [zq_rn]
  refine zw_back_id _ _ _ ?_
  have h := zw_look1 (X1 := zb_o :: zp_W 1 x.1) (Y := zq_W 8 x.2.1) (X2 := zt_W x.2.2.1 ++ zr_W 67 x.2.2.2) (is := zb_is) rfl
  simp only [List.cons_append] at h
  exact h
theorem zb_upK (x : zb_D) (q : zq_D) (g : zp_D) : zw_back (zb_W x) zb_isK ((zq_W 0 q ++ zp_W 58 g).map (zw_rE zb_isK)) = zb_W (g, q, x.2.2) := by
  rw [zq_rnK]
  refine (zw_back_app zb_is [1, 2, 3, 4, 5, 6, 7] (zq_W 8 q) (zp_W 1 g) _ rfl).trans ?_
  have h2 : zw_back (zb_W x) [1, 2, 3, 4, 5, 6, 7] (zp_W 1 g) = zb_W (g, x.2) := zw_put1 (X1 := [zb_o]) (Y := zp_W 1 x.1) (Y' := zp_W 1 g) (X2 := zq_W 8 x.2.1 ++ (zt_W x.2.2.1 ++ zr_W 67 x.2.2.2)) (is := [1, 2, 3, 4, 5, 6, 7]) rfl rfl
  rw [h2]
  have h := zw_put1 (X1 := zb_o :: zp_W 1 g) (Y := zq_W 8 x.2.1) (Y' := zq_W 8 q) (X2 := zt_W x.2.2.1 ++ zr_W 67 x.2.2.2) (is := zb_is) rfl rfl
  simp only [List.cons_append] at h
  exact h
end
