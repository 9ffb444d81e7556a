/-! the model's world: its object and 34 rows of numbers, told by their places -/
abbrev zm_V : Type := Int32 × Int32 × Int32 × Int32 × Int32 × Int32 × Int32 × Int32 × Int32
abbrev zm_A : Type := Nat → Nat → Int32
abbrev zm_D : Type := zm_A × zm_V
def zm_o (i : Nat) (v : zm_V) : zw_E := .inr (5, [.ref (i + 1), .ref (i + 2), .ref (i + 3), .int v.1, .int v.2.1, .int v.2.2.1, .ref (i + 4), .ref (i + 13), .ref (i + 22), .ref (i + 31), .ref (i + 32), .ref (i + 33), .int v.2.2.2.1, .int v.2.2.2.2.1, .ref (i + 34), .int v.2.2.2.2.2.1, .int v.2.2.2.2.2.2.1, .int v.2.2.2.2.2.2.2.1, .int v.2.2.2.2.2.2.2.2])
def zm_bk (i b : Nat) : Nat → Option Nat := fun j => if j < 8 then some (i + (b + 1 + j)) else none
def zm_c (i : Nat) (a : zm_A) (k : Nat) : zw_E :=
  if k = 4 ∨ k = 13 ∨ k = 22 then .inl (4, 8, .inr (.inr (.inr (.inr (zm_bk i k))))) else if k = 33 then .inl (1, 8, .inl (a k)) else if k = 31 ∨ k = 32 then .inl (0, 8, .inl (a k)) else .inl (0, 13, .inl (a k))
def zm_W (i : Nat) (d : zm_D) : List zw_E := zm_o i d.2 :: (List.range' 1 34).map (zm_c i d.1)
def zm_ar (k : Nat) : Prop := k < 35 ∧ k ≠ 0 ∧ k ≠ 4 ∧ k ≠ 13 ∧ k ≠ 22 ∧ k ≠ 31 ∧ k ≠ 32 ∧ k ≠ 33
theorem zm_len (i : Nat) (d : zm_D) : (zm_W i d).length = 35 := rfl
theorem zm_get (i : Nat) (d : zm_D) {k : Nat} (h1 : 1 ≤ k) (h2 : k < 35) : (zm_W i d)[k]? = some (zm_c i d.1 k) := by
  obtain ⟨k, rfl⟩ := Nat.exists_eq_add_of_le' h1
  show ((List.range' 1 34).map (zm_c i d.1))[k]? = _
  rw [List.getElem?_map, List.getElem?_range' (by omega)]
  simp [Nat.add_comm]
theorem zm_cA (i : Nat) (a : zm_A) {k : Nat} (h : zm_ar k) : zm_c i a k = .inl (0, 13, .inl (a k)) := by
  obtain ⟨h1, h2, h3, h4, h5, h6, h7, h8⟩ := h
  unfold zm_c
  rw [if_neg (by omega), if_neg h8, if_neg (by omega)]
theorem zm_cR (i : Nat) (a : zm_A) {k : Nat} (h : k = 4 ∨ k = 13 ∨ k = 22) : zm_c i a k = .inl (4, 8, .inr (.inr (.inr (.inr (zm_bk i k))))) := by
  unfold zm_c
  rw [if_pos h]
theorem zm_set (i : Nat) (a : zm_A) (v : zm_V) {k : Nat} (h1 : 1 ≤ k) (h2 : k < 35) (F : Nat → Int32) {e : zw_E} (he : e = zm_c i (va_up a k F) k) : (zm_W i (a, v)).set k e = zm_W i (va_up a k F, v) := by
  refine List.ext_getElem? (fun n => ?_)
  rw [List.getElem?_set, zm_len]
  by_cases hk : k = n
  · subst hk
    rw [if_pos rfl, if_pos h2, zm_get i _ h1 h2, he]
  · rw [if_neg hk]
    rcases Nat.lt_or_ge n 35 with hn | hn
    · rcases Nat.lt_or_ge n 1 with h0 | h0
      · have : n = 0 := by omega
        subst this
        rfl
      · rw [zm_get i _ h0 hn, zm_get i _ h0 hn]
        unfold zm_c
        have e9 : va_up a k F n = a n := va_up_ne a F (fun q => hk q.symm)
        show some _ = some _
        simp only [e9]
    · rw [List.getElem?_eq_none (by rw [zm_len]; exact hn), List.getElem?_eq_none (by rw [zm_len]; exact hn)]
theorem zm_at (i : Nat) (d : zm_D) {k : Nat} (h : zm_ar k) : (zm_W i d)[k]? = some (.inl (0, 13, .inl (d.1 k))) := by
  rw [zm_get i d (by have := h.2.1; omega) h.1, zm_cA i d.1 h]
theorem zm_setA (i : Nat) (a : zm_A) (v : zm_V) {k : Nat} (h : zm_ar k) (F : Nat → Int32) : (zm_W i (a, v)).set k (.inl (0, 13, .inl F)) = zm_W i (va_up a k F, v) :=
  zm_set i a v (by have := h.2.1; omega) h.1 F (by rw [zm_cA i _ h, va_up_self])
theorem va_up_id {α : Type} (f : Nat → α) (k : Nat) : va_up f k (f k) = f := by
  funext j
  unfold va_up
  split
  · rename_i h; rw [h]
  · rfl
/-- the first thirteen of f, behind them g -/
def zf_cp (n : Nat) (f g : Nat → Int32) : Nat → Int32 := fun i => if i < n then f i else g i
theorem zf_cp_s (n : Nat) (f g : Nat → Int32) : upd (zf_cp n f g) n (f n) = zf_cp (n + 1) f g := by
  funext i
  unfold upd zf_cp
  by_cases h : i = n
  · rw [if_pos h, if_pos (by omega), h]
  · rw [if_neg h]
    by_cases h2 : i < n
    · rw [if_pos h2, if_pos (by omega)]
    · rw [if_neg h2, if_neg (by omega)]
theorem zf_cp_lt {n i : Nat} (f g : Nat → Int32) (h : i < n) : zf_cp n f g i = f i := if_pos h
set_option maxHeartbeats 4000000 in
theorem zm_copied {l : Launch} (hl : l.stackTraces = false) (D : va_G) (dA : Nat → ClassId) (f g : Nat → Int32) : zw_Sp l D dA yX5_copied wsX5_copied 0 0 0 [.ref 0, .ref 1] [.inl (0, 13, .inl f), .inl (0, 13, .inl g)]
    (fun r w => r = none ∧ w = [.inl (0, 13, .inl f), .inl (0, 13, .inl (zf_cp 13 f g))]) (fun _ _ => False) := by
  refine zw_start hl (by decide) rfl rfl (Nat.le_of_ble_eq_true rfl) ?_
  intro pr e s m args below meth c ad A hA B
  refine zs_iconst (v := 0) B dX5_copied_0 (by decide) ?_
  refine zs_istore_n B dX5_copied_1 (i := 2) rfl (by decide) rfl ?_
  refine zs_eq (wl' := [.inl (0, 13, .inl f), .inl (0, 13, .inl (zf_cp (zz 0) f g))]) (lv' := [some (.ref 0), some (.ref 1), some (.int (nI (zz 0)))]) rfl rfl rfl rfl ?_
  obtain ⟨k, hk⟩ : ∃ k, k + zz 0 = 13 := ⟨13, rfl⟩
  generalize zz 0 = j at hk ⊢
  induction k generalizing j with
  | zero =>
    have hj : j = 13 := by omega
    subst hj
    refine zs_iload_n B dX5_copied_2 (i := 2) rfl rfl ?_
    refine zs_bipush (v := 13) B dX5_copied_3 (by decide) ?_
    refine zs_icmp_ge (tgt := 20) B dX5_copied_5 (by decide) (fun h => ?_) (fun h => absurd (by decide) h)
    exact zs_vret hA B rfl (by decide) (by decide) ⟨rfl, rfl⟩ dX5_copied_20
  | succ k ih =>
    refine zs_iload_n B dX5_copied_2 (i := 2) rfl rfl ?_
    refine zs_bipush (v := 13) B dX5_copied_3 (by decide) ?_
    refine zs_icmp_ge (tgt := 20) B dX5_copied_5 (by decide) (fun h => absurd ((nI_leI (by decide) (by omega)).mp (show nI 13 ≤ nI j from h)) (by omega)) (fun h => ?_)
    refine zs_aload_n B dX5_copied_8 (i := 1) rfl rfl ?_
    refine zs_iload_n B dX5_copied_9 (i := 2) rfl rfl ?_
    refine zs_aload_n B dX5_copied_10 (i := 0) rfl rfl ?_
    refine zs_iload_n B dX5_copied_11 (i := 2) rfl rfl ?_
    refine zs_ial B j rfl (by omega) (by decide) rfl dX5_copied_12 ?_
    refine zs_ias B j rfl (by omega) (by decide) rfl dX5_copied_13 ?_
    refine zs_iinc B dX5_copied_14 (i := 2) rfl (nI_1 j) (by decide) rfl ?_
    refine zs_goto (tgt := 2) B dX5_copied_17 (by decide) ?_
    refine zs_eq (wl' := [.inl (0, 13, .inl f), .inl (0, 13, .inl (zf_cp (j + 1) f g))]) ?_ rfl rfl rfl (ih (j + 1) (by omega))
    rw [← zf_cp_s]
    rfl
section ZMC
variable {p : Program} {l : Launch} {e : Env} {R : Room} {s : State} {m : MethodId} {args : Array Value} {below : List Frame} {meth : Method} {c : Code} {Q : State → Prop} {cc : ByteArray} {nL : Nat} {ret : Option FieldType} {own nm : String} {Ts : List Cond} {tb : List ExceptionTableEntry} {D : va_G} {dA : Nat → ClassId} {A : Nat → Prop} {ad0 : Nat → Nat} {n0 cells slots pc : Nat} {lv : List (Option Value)} {rest : List Value}
/-- the model copies one of its rows into another -/
theorem zs_copy {idx : Nat} {a : zm_A} {v : zm_V} (hl : l.stackTraces = false) (x t : Nat) (hx : zm_ar x) (ht : zm_ar t) (hne : x ≠ t) (B : zw_B p l s m args meth c cc nL ret own nm Ts tb D dA A) (gg : GoodIn Ts (va_wsS own idx yX5_copied wsX5_copied)) (hR : 1 ≤ R.frames ∧ 22 ≤ R.locals) (hrest : (rest.map fun v => v.category).sum ≤ 8) (hc : cells ≤ R.cells ∧ slots ≤ R.slots)
    (hdg : decode cc pc = .ok (.invokestatic idx, 3)) (kk : zw_k p l e R s m args below meth c Q D dA A ad0 n0 nL cells slots (zm_W 0 (va_up a t (zf_cp 13 (a x) (a t)), v)) (pc + 3) lv rest) :
    zw_k p l e R s m args below meth c Q D dA A ad0 n0 nL cells slots (zm_W 0 (a, v)) pc lv (.ref t :: .ref x :: rest) := by
  refine zs_callS (n := 2) (wlc := [.inl (0, 13, .inl (a x)), .inl (0, 13, .inl (a t))]) (as := [.ref 0, .ref 1]) (rest := rest) [x, t] B (zm_copied hl D dA (a x) (a t)) gg rfl ⟨by decide, by decide, by decide +kernel⟩ rfl ?_ ?_ rfl ⟨hR.1, hR.2⟩ hrest hc hdg (by rintro v w ⟨rfl, rfl⟩; rfl) (fun _ _ h => h.elim) (fun _ _ h => h.elim) ?_
  · show [(zm_W 0 (a, v))[x]?, (zm_W 0 (a, v))[t]?] = [_, _]
    rw [zm_at 0 (a, v) hx, zm_at 0 (a, v) ht]
    rfl
  · show va_nd [x, t] = true
    simp [va_nd, hne]
  · rintro r w ⟨rfl, rfl⟩
    refine zs_eq ?_ rfl rfl rfl kk
    show ((zm_W 0 (a, v)).set t (.inl (0, 13, .inl (zf_cp 13 (a x) (a t))))).set x (.inl (0, 13, .inl (a x))) = _
    rw [zm_setA 0 a v ht, zm_setA 0 _ v hx]
    have : va_up (va_up a t (zf_cp 13 (a x) (a t))) x (a x) = va_up a t (zf_cp 13 (a x) (a t)) := by
      have h := va_up_id (va_up a t (zf_cp 13 (a x) (a t))) x
      rw [va_up_ne a _ hne] at h
      exact h
    rw [this]
/-- one of the rows that are kept -/
theorem zs_mrow {a : zm_A} {v : zm_V} {i : Int32} (b j : Nat) (hb : b = 4 ∨ b = 13 ∨ b = 22) (hj : j < 8) (hi : i = nI j) (B : zw_B p l s m args meth c cc nL ret own nm Ts tb D dA A)
    (hdg : decode cc pc = .ok (.aaload, 1)) (kk : zw_k p l e R s m args below meth c Q D dA A ad0 n0 nL cells slots (zm_W 0 (a, v)) (pc + 1) lv (.ref (b + 1 + j) :: rest)) :
    zw_k p l e R s m args below meth c Q D dA A ad0 n0 nL cells slots (zm_W 0 (a, v)) pc lv (.int i :: .ref b :: rest) := by
  refine zs_aal (t := 4) (n := 8) (r := b + 1 + j) (f := zm_bk 0 b) B j ?_ (Or.inr rfl) hj (by decide) hi ?_ hdg kk
  · rw [zm_get 0 _ (by omega) (by omega), zm_cR 0 _ hb]
  · unfold zm_bk
    rw [if_pos hj, Nat.zero_add]
theorem zs_mget {a : zm_A} {v : zm_V} {i : Int32} (k j : Nat) (hk : zm_ar k) (hj : j < 13) (hi : i = nI j) (B : zw_B p l s m args meth c cc nL ret own nm Ts tb D dA A)
    (hdg : decode cc pc = .ok (.iaload, 1)) (kk : zw_k p l e R s m args below meth c Q D dA A ad0 n0 nL cells slots (zm_W 0 (a, v)) (pc + 1) lv (.int (a k j) :: rest)) :
    zw_k p l e R s m args below meth c Q D dA A ad0 n0 nL cells slots (zm_W 0 (a, v)) pc lv (.int i :: .ref k :: rest) :=
  zs_ial (n := 13) (f := a k) B j (zm_at 0 (a, v) hk) hj (by decide) hi hdg kk
theorem zs_mset {a : zm_A} {v : zm_V} {i x : Int32} (k j : Nat) (hk : zm_ar k) (hj : j < 13) (hi : i = nI j) (B : zw_B p l s m args meth c cc nL ret own nm Ts tb D dA A)
    (hdg : decode cc pc = .ok (.iastore, 1)) (kk : zw_k p l e R s m args below meth c Q D dA A ad0 n0 nL cells slots (zm_W 0 (va_up a k (upd (a k) j x), v)) (pc + 1) lv rest) :
    zw_k p l e R s m args below meth c Q D dA A ad0 n0 nL cells slots (zm_W 0 (a, v)) pc lv (.int x :: .int i :: .ref k :: rest) := by
  refine zs_ias (n := 13) (f := a k) B j (zm_at 0 (a, v) hk) hj (by decide) hi hdg ?_
  rw [zm_setA 0 a v hk]
  exact kk
theorem zs_mget8 {a : zm_A} {v : zm_V} {i : Int32} (k j : Nat) (hk : k = 31 ∨ k = 32) (hj : j < 8) (hi : i = nI j) (B : zw_B p l s m args meth c cc nL ret own nm Ts tb D dA A)
    (hdg : decode cc pc = .ok (.iaload, 1)) (kk : zw_k p l e R s m args below meth c Q D dA A ad0 n0 nL cells slots (zm_W 0 (a, v)) (pc + 1) lv (.int (a k j) :: rest)) :
    zw_k p l e R s m args below meth c Q D dA A ad0 n0 nL cells slots (zm_W 0 (a, v)) pc lv (.int i :: .ref k :: rest) := by
  refine zs_ial (n := 8) (f := a k) B j ?_ hj (by decide) hi hdg kk
  rw [zm_get 0 _ (by omega) (by omega)]
  unfold zm_c
  rw [if_neg (by omega), if_neg (by omega), if_pos hk]
theorem zs_mset8 {a : zm_A} {v : zm_V} {i x : Int32} (k j : Nat) (hk : k = 31 ∨ k = 32) (hj : j < 8) (hi : i = nI j) (B : zw_B p l s m args meth c cc nL ret own nm Ts tb D dA A)
    (hdg : decode cc pc = .ok (.iastore, 1)) (kk : zw_k p l e R s m args below meth c Q D dA A ad0 n0 nL cells slots (zm_W 0 (va_up a k (upd (a k) j x), v)) (pc + 1) lv rest) :
    zw_k p l e R s m args below meth c Q D dA A ad0 n0 nL cells slots (zm_W 0 (a, v)) pc lv (.int x :: .int i :: .ref k :: rest) := by
  have hc : ∀ a : zm_A, zm_c 0 a k = .inl (0, 8, .inl (a k)) := fun a => by
    unfold zm_c
    rw [if_neg (by omega), if_neg (by omega), if_pos hk]
  refine zs_ias (n := 8) (f := a k) B j ?_ hj (by decide) hi hdg ?_
  · rw [zm_get 0 _ (by omega) (by omega), hc]
  · rw [zm_set 0 a v (by omega) (by omega) (upd (a k) j x) (by rw [hc, va_up_self])]
    exact kk
theorem zs_mgetC {a : zm_A} {v : zm_V} {i : Int32} (j : Nat) (hj : j < 8) (hi : i = nI j) (B : zw_B p l s m args meth c cc nL ret own nm Ts tb D dA A)
    (hdg : decode cc pc = .ok (.caload, 1)) (kk : zw_k p l e R s m args below meth c Q D dA A ad0 n0 nL cells slots (zm_W 0 (a, v)) (pc + 1) lv (.int (a 33 j) :: rest)) :
    zw_k p l e R s m args below meth c Q D dA A ad0 n0 nL cells slots (zm_W 0 (a, v)) pc lv (.int i :: .ref 33 :: rest) := by
  refine zs_cal (n := 8) (f := a 33) B j ?_ hj (by decide) hi hdg kk
  rw [zm_get 0 _ (by omega) (by omega)]
  rfl
theorem zs_msetC {a : zm_A} {v : zm_V} {i x : Int32} (j : Nat) (hj : j < 8) (hi : i = nI j) (hx : x = 99 ∨ x = 97) (B : zw_B p l s m args meth c cc nL ret own nm Ts tb D dA A)
    (hdg : decode cc pc = .ok (.castore, 1)) (kk : zw_k p l e R s m args below meth c Q D dA A ad0 n0 nL cells slots (zm_W 0 (va_up a 33 (upd (a 33) j x), v)) (pc + 1) lv rest) :
    zw_k p l e R s m args below meth c Q D dA A ad0 n0 nL cells slots (zm_W 0 (a, v)) pc lv (.int x :: .int i :: .ref 33 :: rest) := by
  refine zs_cas (n := 8) (f := a 33) B j ?_ hj (by decide) hi (by rcases hx with rfl | rfl <;> rfl) hdg ?_
  · rw [zm_get 0 _ (by omega) (by omega)]
    rfl
  · rw [zm_set 0 a v (k := 33) (by omega) (by omega) (upd (a 33) j x) (e := .inl (1, 8, .inl (upd (a 33) j x))) rfl]
    exact kk
end ZMC
