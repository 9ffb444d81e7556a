/-! for the law: catching into a far local, the script, the two states side by side -/
section ZL
variable {p : Program} {l : Launch} {e : Env} {R : Room} {s : State} {m : MethodId} {args : Array Value} {below : List Frame} {meth : Method} {c : Code} {Q : State → Prop} {cc : ByteArray} {nL : Nat} {ret : Option FieldType} {own nm : String} {Ts : List Cond} {tb : List ExceptionTableEntry} {D : va_G} {dA : Nat → ClassId} {A : Nat → Prop} {ad0 : Nat → Nat} {n0 cells slots pc : Nat} {wl : List zw_E} {lv : List (Option Value)} {st rest : List Value}
theorem zs_xcatchW {E : String} {i : Nat} (B : zw_B p l s m args meth c cc nL ret own nm Ts tb D dA A) (pre : List ExceptionTableEntry) (x : ExceptionTableEntry) (suf : List ExceptionTableEntry) (hsplit : tb = pre ++ x :: suf)
    (hpass : ∀ z ∈ pre, z.catchType ≠ 0 ∧ ∃ n9 : String, Cond.classLink own z.catchType n9 ∈ Ts ∧ (E, n9) ∈ zw_noc) (hx : covers x pc = true) (h0 : x.catchType ≠ 0) (hlink : Cond.classLink own x.catchType E ∈ Ts) (hcast : (E, E) ∈ zw_cast)
    (hd : decode cc x.handlerPc = .ok (.astore i, 2)) (hn : i < nL) (ok : zw_ok lv i = true) (kk : zw_k p l e R s m args below meth c Q D dA A ad0 n0 nL cells slots wl (x.handlerPc + 2) (lv.set i none) []) :
    zw_x p l e R s m args below meth c Q D dA A ad0 n0 nL cells slots E wl pc lv rest := fun ad H locs ls q ce a1 a2 a3 hP hD hS hl hce hcv hcl => by
  have hts := B.2.2.2.2.2.1
  have hKK := B.2.2.2.2.2.2.1
  refine vx_catch (E := E) (name := E) B.2.2.2.2.1 pre x suf (B.2.2.2.2.2.2.2.2.2.2.2.1.trans hsplit) (fun z hz => ?_) hx h0 (hts _ hlink) (va_Nw.use rfl (hKK.2.2.2.1 _ hcast)) hce hcv hcl ?_
  · obtain ⟨z0, n9, z1, z2⟩ := hpass z hz
    exact Or.inr ⟨z0, n9, hts _ z1, hKK.2.2.2.2.1 _ z2⟩
  · refine lv_astore B.1 B.2.1 hd hl.has hn rfl (fun ls' hl' => kk ad H locs ls' a1 a2 a3 hP hD hS ?_)
    refine ⟨hl'.1, hl'.2.1, fun j w hw => ?_⟩
    rw [List.getElem?_set] at hw
    by_cases e0 : i = j
    · rw [if_pos e0] at hw
      split at hw <;> cases hw
    · rw [if_neg e0] at hw
      refine hl'.2.2 (j, zw_cv ad w) (List.mem_cons_of_mem _ (List.mem_filter.mpr ⟨zw_ents_mem.mpr ⟨w, hw, rfl⟩, ?_⟩))
      have e1 : (j == i) = false := by simp; exact fun q => e0 q.symm
      rw [e1]
      by_cases e2 : j + 1 = i
      · subst e2
        unfold zw_ok at ok
        dsimp only at ok
        rw [hw] at ok
        rw [zw_cv_cat]
        cases w <;> simp_all [Value.category]
      · have e3 : (j + 1 == i) = false := by simp; exact e2
        simp [e3]
/-- the script: the cell b, that no method may write -/
def zL_X (s : State) (A : Nat → Prop) (ad0 : Nat → Nat) (L : Nat) (xs : Nat → Int32) : Prop := va_X (ad0 1000) L xs s s.heap ∧ ad0 1000 < s.heap.size ∧ ¬ A (ad0 1000) ∧ L ≤ 2048
theorem zs_sal (B : zw_B p l s m args meth c cc nL ret own nm Ts tb D dA A) {L : Nat} {xs : Nat → Int32} (hX : zL_X s A ad0 L xs) {i : Int32} {j : Nat} (hi : i = nI j) (hj : j < L) (hdg : decode cc pc = .ok (.iaload, 1))
    (kk : zw_k p l e R s m args below meth c Q D dA A ad0 n0 nL cells slots wl (pc + 1) lv (.int (xs j) :: st)) : zw_k p l e R s m args below meth c Q D dA A ad0 n0 nL cells slots wl pc lv (.int i :: .ref 1000 :: st) := fun ad H locs ls a1 a2 a3 hP hD hS hl => by
  obtain ⟨h1, h2, h3, h4⟩ := hX
  subst hi
  have e1 : ad 1000 = ad0 1000 := a1 1000 (Or.inr (Nat.le_refl _))
  show W p l e R s m args below meth c H locs cells slots Q (F0 m pc ls (.int (nI j) :: .ref (ad 1000) :: st.map (zw_cv ad)))
  rw [e1]
  refine va_sld B.1 B.2.1 h1 h2 h3 hS (vp_in_nI hj (by omega)) hdg ?_
  have e2 : (nI j).toNatClampNeg = j := nI_clamp (by omega)
  rw [e2]
  exact kk ad H locs ls a1 a2 a3 hP hD hS hl
theorem zs_sln (B : zw_B p l s m args meth c cc nL ret own nm Ts tb D dA A) {L : Nat} {xs : Nat → Int32} (hX : zL_X s A ad0 L xs) (hdg : decode cc pc = .ok (.arraylength, 1))
    (kk : zw_k p l e R s m args below meth c Q D dA A ad0 n0 nL cells slots wl (pc + 1) lv (.int (nI L) :: st)) : zw_k p l e R s m args below meth c Q D dA A ad0 n0 nL cells slots wl pc lv (.ref 1000 :: st) := fun ad H locs ls a1 a2 a3 hP hD hS hl => by
  obtain ⟨h1, h2, h3, h4⟩ := hX
  have e1 : ad 1000 = ad0 1000 := a1 1000 (Or.inr (Nat.le_refl _))
  show W p l e R s m args below meth c H locs cells slots Q (F0 m pc ls (.ref (ad 1000) :: st.map (zw_cv ad)))
  rw [e1]
  exact va_slen B.1 B.2.1 h1 h2 h3 hS hdg (kk ad H locs ls a1 a2 a3 hP hD hS hl)
theorem zs_tableOut (B : zw_B p l s m args meth c cc nL ret own nm Ts tb D dA A) {dflt lo hi : Int} {offs : Array Int} {len : Nat} {x : Int32} {tgt : Nat} (hdg : decode cc pc = .ok (.tableswitch dflt lo hi offs, len)) (h : x.toInt < lo ∨ hi < x.toInt) (ht : (pc : Int) + dflt = (tgt : Int))
    (kk : zw_k p l e R s m args below meth c Q D dA A ad0 n0 nL cells slots wl tgt lv st) : zw_k p l e R s m args below meth c Q D dA A ad0 n0 nL cells slots wl pc lv (.int x :: st) := fun ad H locs ls a1 a2 a3 hP hD hS hl =>
  lv_tableOut B.1 B.2.1 hdg h ht (kk ad H locs ls a1 a2 a3 hP hD hS hl)
theorem zs_tableIn (B : zw_B p l s m args meth c cc nL ret own nm Ts tb D dA A) {dflt lo hi : Int} {offs : Array Int} {len : Nat} {x : Int32} {off : Int} {tgt : Nat} (hdg : decode cc pc = .ok (.tableswitch dflt lo hi offs, len)) (h1 : ¬ x.toInt < lo) (h2 : ¬ hi < x.toInt) (ho : offs[(x.toInt - lo).toNat]? = some off) (ht : (pc : Int) + off = (tgt : Int))
    (kk : zw_k p l e R s m args below meth c Q D dA A ad0 n0 nL cells slots wl tgt lv st) : zw_k p l e R s m args below meth c Q D dA A ad0 n0 nL cells slots wl pc lv (.int x :: st) := fun ad H locs ls a1 a2 a3 hP hD hS hl =>
  lv_tableIn B.1 B.2.1 hdg h1 h2 ho ht (kk ad H locs ls a1 a2 a3 hP hD hS hl)
end ZL
/-- the walk, told by the class and by the model -/
def zL_w (S : zp_L) (t : zt_D) (W : zm_Wk) : Prop := t.1 = W.1 ∧ (W.1 = 1 → (t.2.1 = 99 ∨ t.2.1 = 97) ∧ ∃ n : Nat, t.2.2.1 = nI n ∧ n ≤ (zp_row S t.2.1).length ∧ W.2.1 = ((zp_row S t.2.1).drop n).map (·.1) ∧ (t.2.2.2 = 0 ↔ W.2.2 < 0) ∧ (¬ t.2.2.2 = 0 → 1 ≤ n ∧ ∃ q, (zp_row S t.2.1)[n - 1]? = some q ∧ q.1 = W.2.2))
def zL_C (T : zb_T) (U : zm_U) : Prop := T.1 = U.1 ∧ T.2.1 = U.2.1 ∧ zm_I U ∧ (U.2.2.1 = 0 ∨ U.2.2.1 = 1) ∧ zL_w T.1 T.2.2 U.2.2
theorem zL_C.off {S : zp_L} {hist : List zp_L} {t : zt_D} {W : zm_Wk} (hS : zp_I S) (hh : ∀ S ∈ hist, zp_I S) (h1 : t.1 = 0) (h2 : W.1 = 0) : zL_C (S, hist, t) (S, hist, W) :=
  ⟨rfl, rfl, ⟨hS, hh⟩, Or.inl h2, h1.trans h2.symm, fun h => by rw [h2] at h; exact absurd h (by decide)⟩
theorem zL_C.hist {T : zb_T} {U : zm_U} (h : zL_C T U) : ∀ S ∈ (T.1 :: T.2.1).take 8, zp_I S := fun S hS => by
  rcases List.mem_cons.mp (List.mem_of_mem_take hS) with rfl | h2
  · rw [h.1]; exact h.2.2.1.1
  · rw [h.2.1] at h2
    exact h.2.2.1.2 S h2
theorem zL_C.chg {T : zb_T} {U : zm_U} (h : zL_C T U) {S' : zp_L} (hS : zp_I S') : zL_C (zb_set (zb_chg T) S') (zm_set1 (zm_chg U) S') := by
  obtain ⟨S, hist, t⟩ := T
  obtain ⟨S2, hist2, W⟩ := U
  obtain ⟨h1, h2, h3⟩ := id h
  cases h1
  cases h2
  exact zL_C.off hS h.hist rfl rfl
theorem zL_C.inv {T : zb_T} {U : zm_U} (h : zL_C T U) : zp_I T.1 := by rw [h.1]; exact h.2.2.1.1
theorem zL_C0 : zL_C (([], [], 8, 99), [], (0, 99, 0, 0)) (([], [], 8, 99), [], (0, [], -1)) := by
  refine zL_C.off ⟨⟨by decide, by decide, by decide, Or.inl rfl, by decide, List.Perm.refl _, List.nodup_nil, fun q h => by cases h⟩, by decide⟩ (fun S h => by cases h) rfl rfl
