/-! the class Page: its loops -/
section ZMx
variable {p : Program} {l : Launch} {e : Env} {R : Room} {s : State} {m : MethodId} {args : Array Value} {below : List Frame} {meth : Method} {c : Code} {Q : State → Prop} {cc : ByteArray} {nL : Nat} {ret : Option FieldType} {own nm : String} {Ts : List Cond} {tb : List ExceptionTableEntry} {D : va_G} {dA : Nat → ClassId} {A : Nat → Prop} {ad0 : Nat → Nat} {n0 cells slots pc : Nat} {wl : List zw_E} {lv : List (Option Value)} {st : List Value}
theorem zs_mmax {idx : Nat} {x y : Int32} (B : zw_B p l s m args meth c cc nL ret own nm Ts tb D dA A) (h1 : Cond.methodLink own idx Lib.Math.max.name ∈ Ts) (h2 : Cond.static Lib.Math.max.name ∈ Ts) (h3 : Cond.initialized "java/lang/Math" ∈ Ts) (h4 : Cond.code Lib.Math.max.name Lib.Math.max.code 2 (some .int) ∈ Ts)
    (hf : 1 ≤ R.frames) (hlo : 21 ≤ R.locals) (hst : (st.map fun v => v.category).sum ≤ 8) (hc : cells ≤ R.cells) (hs : slots ≤ R.slots) (hdg : decode cc pc = .ok (.invokestatic idx, 3))
    (kk : zw_k p l e R s m args below meth c Q D dA A ad0 n0 nL cells slots wl (pc + 3) lv (.int (if x < y then y else x) :: st)) : zw_k p l e R s m args below meth c Q D dA A ad0 n0 nL cells slots wl pc lv (.int y :: .int x :: st) := fun ad H locs ls a1 a2 a3 hP hD hS hl => by
  have hts := B.2.2.2.2.2.1
  refine va_mmax B.1 B.2.1 (B.2.2.2.1.trans hl.1.symm) B.2.2.2.2.1 (hts _ h1) (hts _ h2) (hts _ h3) (hts _ h4) hf ?_ hc hs hdg (kk ad H locs ls a1 a2 a3 hP hD hS hl)
  have e9 : ((st.map (zw_cv ad)).map fun v => v.category).sum = (st.map fun v => v.category).sum := by
    rw [List.map_map]
    rw [show ((fun v : Value => v.category) ∘ zw_cv ad) = fun v => v.category from funext fun v => zw_cv_cat ad v]
  rw [e9]
  omega
theorem zs_mmin {idx : Nat} {x y : Int32} (B : zw_B p l s m args meth c cc nL ret own nm Ts tb D dA A) (h1 : Cond.methodLink own idx Lib.Math.min.name ∈ Ts) (h2 : Cond.static Lib.Math.min.name ∈ Ts) (h3 : Cond.initialized "java/lang/Math" ∈ Ts) (h4 : Cond.code Lib.Math.min.name Lib.Math.min.code 2 (some .int) ∈ Ts)
    (hf : 1 ≤ R.frames) (hlo : 21 ≤ R.locals) (hst : (st.map fun v => v.category).sum ≤ 8) (hc : cells ≤ R.cells) (hs : slots ≤ R.slots) (hdg : decode cc pc = .ok (.invokestatic idx, 3))
    (kk : zw_k p l e R s m args below meth c Q D dA A ad0 n0 nL cells slots wl (pc + 3) lv (.int (if y < x then y else x) :: st)) : zw_k p l e R s m args below meth c Q D dA A ad0 n0 nL cells slots wl pc lv (.int y :: .int x :: st) := fun ad H locs ls a1 a2 a3 hP hD hS hl => by
  have hts := B.2.2.2.2.2.1
  refine va_mmin B.1 B.2.1 (B.2.2.2.1.trans hl.1.symm) B.2.2.2.2.1 (hts _ h1) (hts _ h2) (hts _ h3) (hts _ h4) hf ?_ hc hs hdg (kk ad H locs ls a1 a2 a3 hP hD hS hl)
  have e9 : ((st.map (zw_cv ad)).map fun v => v.category).sum = (st.map fun v => v.category).sum := by
    rw [List.map_map]
    rw [show ((fun v : Value => v.category) ∘ zw_cv ad) = fun v => v.category from funext fun v => zw_cv_cat ad v]
  rw [e9]
  omega
end ZMx
set_option maxHeartbeats 4000000 in
theorem zp_dropWhatIsOver {l : Launch} (hl : l.stackTraces = false) (D : va_G) (dA : Nat → ClassId) (g : zp_D) (S : zp_L) (hR : zp_R S g) (mm : Nat) (hm : S.2.2.1 = nI mm) (hm12 : mm ≤ 12) : zw_Sp l D dA yX0_dropWhatIsOver wsX0_dropWhatIsOver 5 0 0 [.ref 0] (zp_W 0 g) (fun v w => v = some (.int (nI (S.1.length - mm))) ∧ ∃ g', zp_R (zp_drops S (S.1.length - mm)) g' ∧ w = zp_W 0 g') (fun _ _ => False) := by
  refine zw_start hl (by decide) rfl rfl (Nat.le_of_ble_eq_true rfl) ?_
  intro pr e s m args below meth c ad A hA B
  have hmost : g.2.2.1 = nI mm := by rw [← hm]; exact (congrArg Prod.fst hR.2.2).symm
  have h12 := hR.1.len
  refine zs_aload_n B dX0_dropWhatIsOver_0 (i := 0) rfl rfl ?_
  refine zs_get B fX0_dropWhatIsOver_12 rfl rfl dX0_dropWhatIsOver_1 ?_
  refine zs_callV (n := 0) [1, 2, 3] B (zr_count hl D dA g.1) gX0_dropWhatIsOver_X2_count rfl ⟨rfl, by decide, by decide, by decide +kernel⟩ rfl (by rfl) rfl rfl rfl (by rfl) ⟨(by exact Nat.le_of_ble_eq_true rfl), (by exact Nat.le_of_ble_eq_true rfl)⟩ (by exact Nat.le_of_ble_eq_true rfl) ⟨(by exact Nat.le_of_ble_eq_true rfl), (by exact Nat.le_of_ble_eq_true rfl)⟩ dX0_dropWhatIsOver_4 (by rintro v w ⟨rfl, rfl⟩; rfl) (fun _ _ h => h.elim) (fun _ _ h => h.elim) ?_
  rintro v w ⟨rfl, rfl⟩
  refine zs_eq (wl' := zp_W 0 g) (st' := [.int (nI S.1.length)]) rfl rfl (by rw [← hR.1.1]; rfl) rfl ?_
  refine zs_aload_n B dX0_dropWhatIsOver_7 (i := 0) rfl rfl ?_
  refine zs_get B fX0_dropWhatIsOver_21 rfl rfl dX0_dropWhatIsOver_8 ?_
  rw [hmost]
  refine zs_isub B dX0_dropWhatIsOver_11 ?_
  refine zs_iconst (v := 0) B dX0_dropWhatIsOver_12 (by decide) ?_
  refine zs_mmax B (by decide +kernel) (by decide +kernel) (by decide +kernel) (by decide +kernel) (Nat.le_of_ble_eq_true rfl) (Nat.le_of_ble_eq_true rfl) (Nat.le_of_ble_eq_true rfl) (Nat.le_refl _) (Nat.le_refl _) dX0_dropWhatIsOver_13 ?_
  have e0 : (if nI S.1.length - nI mm < 0 then (0 : Int32) else nI S.1.length - nI mm) = nI (S.1.length - mm) := by
    by_cases h : S.1.length < mm
    · rw [if_pos (pk_sneg (by omega) h), show S.1.length - mm = 0 by omega]; exact nI_0.symm
    · rw [pk_sub (by omega), if_neg (nI_pos (by omega))]
  rw [e0]
  refine zs_istore_n B dX0_dropWhatIsOver_16 (i := 1) rfl (by decide) rfl ?_
  refine zs_iconst (v := 0) B dX0_dropWhatIsOver_17 (by decide) ?_
  refine zs_istore_n B dX0_dropWhatIsOver_18 (i := 2) rfl (by decide) rfl ?_
  generalize hov : S.1.length - mm = ov
  have hov12 : ov ≤ 12 := by omega
  obtain ⟨S1, hS1⟩ : ∃ S1, S1 = S := ⟨_, rfl⟩
  obtain ⟨g1, hg1⟩ : ∃ g1, g1 = g := ⟨_, rfl⟩
  refine zs_eq (wl' := zp_W 0 g1) (lv' := [some (.ref 0), some (.int (nI ov)), some (.int (nI (zz 0)))]) (by rw [hg1]) rfl rfl rfl ?_
  have hR1 : zp_R S1 g1 := by rw [hS1, hg1]; exact hR
  obtain ⟨k, hk⟩ : ∃ k, k + zz 0 = ov := ⟨ov, rfl⟩
  have hfin : zp_drops S1 k = zp_drops S ov := by rw [hS1, show k = ov from hk]
  clear hS1 hg1 hmost hov hR hm e0
  generalize zz 0 = j at hk ⊢
  induction k generalizing j S1 g1 with
  | zero =>
    refine zs_iload_n B dX0_dropWhatIsOver_19 (i := 2) rfl rfl ?_
    refine zs_iload_n B dX0_dropWhatIsOver_20 (i := 1) rfl rfl ?_
    refine zs_icmp_ge (tgt := 35) B dX0_dropWhatIsOver_21 (by decide) (fun h => ?_) (fun h => ?_)
    · refine zs_iload_n B dX0_dropWhatIsOver_35 (i := 1) rfl rfl ?_
      exact zs_zret hA B rfl rfl (by decide) (by decide) ⟨rfl, g1, by rw [← hfin]; exact hR1, rfl⟩ dX0_dropWhatIsOver_36
    · exact absurd (nI_le (show ov ≤ j by omega) (by omega)) h
  | succ k ih =>
    refine zs_iload_n B dX0_dropWhatIsOver_19 (i := 2) rfl rfl ?_
    refine zs_iload_n B dX0_dropWhatIsOver_20 (i := 1) rfl rfl ?_
    refine zs_icmp_ge (tgt := 35) B dX0_dropWhatIsOver_21 (by decide) (fun h => ?_) (fun h => ?_)
    · exact absurd ((nI_leI (by omega) (by omega)).mp h) (by omega)
    · refine zs_aload_n B dX0_dropWhatIsOver_24 (i := 0) rfl rfl ?_
      refine zs_callV (n := 0) [0, 1, 2, 3, 4, 5, 6] B (zp_dropEldest hl D dA g1 S1 hR1) gX0_dropWhatIsOver_X0_dropEldest rfl ⟨rfl, by decide, by decide, by decide +kernel⟩ rfl (by rfl) rfl rfl rfl (by rfl) ⟨(by exact Nat.le_of_ble_eq_true rfl), (by exact Nat.le_of_ble_eq_true rfl)⟩ (by exact Nat.le_of_ble_eq_true rfl) ⟨(by exact Nat.le_of_ble_eq_true rfl), (by exact Nat.le_of_ble_eq_true rfl)⟩ dX0_dropWhatIsOver_25 (by rintro v w ⟨rfl, d9, h9, rfl⟩; rfl) (fun _ _ h => h.elim) (fun _ _ h => h.elim) ?_
      rintro v w ⟨rfl, g2, hg2, rfl⟩
      refine zs_eq (wl' := zp_W 0 g2) (st' := [.int (zp_first S1)]) rfl rfl rfl rfl ?_
      refine zs_pop B dX0_dropWhatIsOver_28 rfl ?_
      refine zs_iinc B dX0_dropWhatIsOver_29 (i := 2) rfl (nI_1 j) (by decide) rfl ?_
      refine zs_goto (tgt := 19) B dX0_dropWhatIsOver_32 (by decide) ?_
      exact ih _ _ hg2 hfin (j + 1) (by omega)
set_option maxHeartbeats 4000000 in
theorem zp_takeOutEach {l : Launch} (hl : l.stackTraces = false) (D : va_G) (dA : Nat → ClassId) (g : zp_D) (S : zp_L) (hR : zp_R S g) (o : Int32) (ee : Nat) (h1 : 1 ≤ ee) (he : ee ≤ 12) : zw_Sp l D dA yX0_takeOutEach wsX0_takeOutEach 4 0 0 [.ref 0, .int o, .int (nI ee)] (zp_W 0 g) (fun v w => v = some (.int (nI (S.1.length / ee))) ∧ ∃ g', zp_R (zp_each o ee (S.1.length / ee) S) g' ∧ w = zp_W 0 g') (fun _ _ => False) := by
  refine zw_start hl (by decide) rfl rfl (Nat.le_of_ble_eq_true rfl) ?_
  intro pr e s m args below meth c ad A hA B
  have h12 := hR.1.len
  have hq12 : S.1.length / ee ≤ 12 := Nat.le_trans (Nat.div_le_self _ _) h12
  have hqe : S.1.length / ee * ee ≤ 12 := Nat.le_trans (Nat.div_mul_le_self _ _) h12
  refine zs_iload_n B dX0_takeOutEach_0 (i := 2) rfl rfl ?_
  refine zs_iconst (v := 1) B dX0_takeOutEach_1 (by decide) ?_
  refine zs_icmp_ge (tgt := 7) B dX0_takeOutEach_2 (by decide) (fun h => ?_) (fun h => absurd (show nI 1 ≤ nI ee from nI_le h1 (by omega)) h)
  refine zs_aload_n B dX0_takeOutEach_7 (i := 0) rfl rfl ?_
  refine zs_get B fX0_takeOutEach_12 rfl rfl dX0_takeOutEach_8 ?_
  refine zs_callV (n := 0) [1, 2, 3] B (zr_count hl D dA g.1) gX0_takeOutEach_X2_count rfl ⟨rfl, by decide, by decide, by decide +kernel⟩ rfl (by rfl) rfl rfl rfl (by rfl) ⟨(by exact Nat.le_of_ble_eq_true rfl), (by exact Nat.le_of_ble_eq_true rfl)⟩ (by exact Nat.le_of_ble_eq_true rfl) ⟨(by exact Nat.le_of_ble_eq_true rfl), (by exact Nat.le_of_ble_eq_true rfl)⟩ dX0_takeOutEach_11 (by rintro v w ⟨rfl, rfl⟩; rfl) (fun _ _ h => h.elim) (fun _ _ h => h.elim) ?_
  rintro v w ⟨rfl, rfl⟩
  refine zs_eq (wl' := zp_W 0 g) (st' := [.int (nI S.1.length)]) rfl rfl (by rw [← hR.1.1]; rfl) rfl ?_
  refine zs_iload_n B dX0_takeOutEach_14 (i := 2) rfl rfl ?_
  refine zs_idiv B dX0_takeOutEach_15 (nI_ne0 (by omega) (by omega)) ?_
  rw [pk_div (by omega) (by omega) (by omega)]
  generalize hov : S.1.length / ee = ov at hq12 hqe ⊢
  refine zs_istore_n B dX0_takeOutEach_16 (i := 3) rfl (by decide) rfl ?_
  refine zs_iload_n B dX0_takeOutEach_17 (i := 3) rfl rfl ?_
  refine zs_istore B dX0_takeOutEach_18 (i := 4) (by decide) rfl ?_
  obtain ⟨S1, hS1⟩ : ∃ S1, S1 = S := ⟨_, rfl⟩
  obtain ⟨g1, hg1⟩ : ∃ g1, g1 = g := ⟨_, rfl⟩
  refine zs_eq (wl' := zp_W 0 g1) (lv' := [some (.ref 0), some (.int o), some (.int (nI ee)), some (.int (nI ov)), some (.int (nI (zz ov)))]) (by rw [hg1]) rfl rfl rfl ?_
  have hR1 : zp_R S1 g1 := by rw [hS1, hg1]; exact hR
  have hk : zz ov ≤ ov := Nat.le_refl _
  have hfin : zp_each o ee (zz ov) S1 = zp_each o ee ov S := by rw [hS1]; rfl
  clear hS1 hg1 hov hR
  generalize zz ov = t at hk hfin ⊢
  induction t generalizing S1 g1 with
  | zero =>
    refine zs_iload B dX0_takeOutEach_20 (i := 4) rfl ?_
    refine zs_iconst (v := 1) B dX0_takeOutEach_22 (by decide) ?_
    refine zs_icmp_lt (tgt := 50) B dX0_takeOutEach_23 (by decide) (fun h => ?_) (fun h => absurd (show nI 0 < nI 1 from nI_lt (by omega) (by omega)) h)
    refine zs_iload_n B dX0_takeOutEach_50 (i := 3) rfl rfl ?_
    exact zs_zret hA B rfl rfl (by decide) (by decide) ⟨rfl, g1, by rw [← hfin]; exact hR1, rfl⟩ dX0_takeOutEach_51
  | succ t ih =>
    refine zs_iload B dX0_takeOutEach_20 (i := 4) rfl ?_
    refine zs_iconst (v := 1) B dX0_takeOutEach_22 (by decide) ?_
    refine zs_icmp_lt (tgt := 50) B dX0_takeOutEach_23 (by decide) (fun h => absurd (show nI (t + 1) < nI 1 from h) (nI_nlt (by omega) (by omega))) (fun h => ?_)
    refine zs_aload_n B dX0_takeOutEach_26 (i := 0) rfl rfl ?_
    refine zs_aload_n B dX0_takeOutEach_27 (i := 0) rfl rfl ?_
    refine zs_iload_n B dX0_takeOutEach_28 (i := 1) rfl rfl ?_
    refine zs_callV (n := 1) [0, 1, 2, 3, 4, 5, 6] B (zp_rowM hl D dA g1 o) gX0_takeOutEach_X0_row rfl ⟨rfl, by decide, by decide, by decide +kernel⟩ rfl (by rfl) rfl rfl rfl (by rfl) ⟨(by exact Nat.le_of_ble_eq_true rfl), (by exact Nat.le_of_ble_eq_true rfl)⟩ (by exact Nat.le_of_ble_eq_true rfl) ⟨(by exact Nat.le_of_ble_eq_true rfl), (by exact Nat.le_of_ble_eq_true rfl)⟩ dX0_takeOutEach_29 (by rintro v w ⟨rfl, rfl⟩; rfl) (fun _ _ h => h.elim) (fun _ _ h => h.elim) ?_
    rintro v w ⟨rfl, rfl⟩
    have hte : (t + 1) * ee ≤ 12 := Nat.le_trans (Nat.mul_le_mul_right _ hk) hqe
    have hte1 : 1 ≤ (t + 1) * ee := Nat.mul_pos (by omega) (by omega)
    have e2 : nI ((t + 1) * ee) - 1 = nI ((t + 1) * ee - 1) := by
      obtain ⟨z, hz⟩ : ∃ z, (t + 1) * ee = z + 1 := ⟨(t + 1) * ee - 1, by omega⟩
      rw [hz]
      exact nI_pred z
    by_cases ho : o = 97
    · rw [if_pos ho]
      refine zs_eq (wl' := zp_W 0 g1) (st' := [.ref 4, .ref 0]) rfl rfl rfl rfl ?_
      refine zs_iload B dX0_takeOutEach_32 (i := 4) rfl ?_
      refine zs_iload_n B dX0_takeOutEach_34 (i := 2) rfl rfl ?_
      refine zs_imul B dX0_takeOutEach_35 ?_
      refine zs_iconst (v := 1) B dX0_takeOutEach_36 (by decide) ?_
      refine zs_isub B dX0_takeOutEach_37 ?_
      rw [pk_mul, e2]
      refine zs_callV (n := 1) [4, 5, 6] B (zr_keyIn hl D dA g1.2.1 S1.2.1 hR1.2.1 (nI ((t + 1) * ee - 1))) gX0_takeOutEach_X2_keyIn rfl ⟨rfl, by decide, by decide, by decide +kernel⟩ rfl (by rfl) rfl rfl rfl (by rfl) ⟨(by exact Nat.le_of_ble_eq_true rfl), (by exact Nat.le_of_ble_eq_true rfl)⟩ (by exact Nat.le_of_ble_eq_true rfl) ⟨(by exact Nat.le_of_ble_eq_true rfl), (by exact Nat.le_of_ble_eq_true rfl)⟩ dX0_takeOutEach_38 (by rintro v w ⟨rfl, rfl⟩; rfl) (fun _ _ h => h.elim) (fun _ _ h => h.elim) ?_
      rintro v w ⟨rfl, rfl⟩
      have e1 : zl_key S1.2.1 (zf_ix (nI ((t + 1) * ee - 1)) S1.2.1.length) = zl_key (zp_row S1 o) (zf_ix (nI ((t + 1) * ee - 1)) (zp_row S1 o).length) := by unfold zp_row; rw [if_pos ho]
      rw [e1]
      refine zs_eq (wl' := zp_W 0 g1) (st' := [.int (zl_key (zp_row S1 o) (zf_ix (nI ((t + 1) * ee - 1)) (zp_row S1 o).length)), .ref 0]) rfl rfl rfl rfl ?_
      refine zs_callV (n := 1) [0, 1, 2, 3, 4, 5, 6] B (zp_takeOut hl D dA g1 S1 hR1 (zl_key (zp_row S1 o) (zf_ix (nI ((t + 1) * ee - 1)) (zp_row S1 o).length))) gX0_takeOutEach_X0_takeOut rfl ⟨rfl, by decide, by decide, by decide +kernel⟩ rfl (by rfl) rfl rfl rfl (by rfl) ⟨(by exact Nat.le_of_ble_eq_true rfl), (by exact Nat.le_of_ble_eq_true rfl)⟩ (by exact Nat.le_of_ble_eq_true rfl) ⟨(by exact Nat.le_of_ble_eq_true rfl), (by exact Nat.le_of_ble_eq_true rfl)⟩ dX0_takeOutEach_41 (by rintro v w ⟨rfl, d9, h9, rfl⟩; rfl) (fun _ _ h => h.elim) (fun _ _ h => h.elim) ?_
      rintro v w ⟨rfl, g2, hg2, rfl⟩
      refine zs_eq (wl' := zp_W 0 g2) (st' := []) rfl rfl rfl rfl ?_
      refine zs_iinc B dX0_takeOutEach_44 (i := 4) rfl (pk_m1 t) (by decide) rfl ?_
      refine zs_goto (tgt := 20) B dX0_takeOutEach_47 (by decide) ?_
      exact ih _ _ hg2 (by omega) hfin
    · rw [if_neg ho]
      refine zs_eq (wl' := zp_W 0 g1) (st' := [.ref 1, .ref 0]) rfl rfl rfl rfl ?_
      refine zs_iload B dX0_takeOutEach_32 (i := 4) rfl ?_
      refine zs_iload_n B dX0_takeOutEach_34 (i := 2) rfl rfl ?_
      refine zs_imul B dX0_takeOutEach_35 ?_
      refine zs_iconst (v := 1) B dX0_takeOutEach_36 (by decide) ?_
      refine zs_isub B dX0_takeOutEach_37 ?_
      rw [pk_mul, e2]
      refine zs_callV (n := 1) [1, 2, 3] B (zr_keyIn hl D dA g1.1 S1.1 hR1.1 (nI ((t + 1) * ee - 1))) gX0_takeOutEach_X2_keyIn rfl ⟨rfl, by decide, by decide, by decide +kernel⟩ rfl (by rfl) rfl rfl rfl (by rfl) ⟨(by exact Nat.le_of_ble_eq_true rfl), (by exact Nat.le_of_ble_eq_true rfl)⟩ (by exact Nat.le_of_ble_eq_true rfl) ⟨(by exact Nat.le_of_ble_eq_true rfl), (by exact Nat.le_of_ble_eq_true rfl)⟩ dX0_takeOutEach_38 (by rintro v w ⟨rfl, rfl⟩; rfl) (fun _ _ h => h.elim) (fun _ _ h => h.elim) ?_
      rintro v w ⟨rfl, rfl⟩
      have e1 : zl_key S1.1 (zf_ix (nI ((t + 1) * ee - 1)) S1.1.length) = zl_key (zp_row S1 o) (zf_ix (nI ((t + 1) * ee - 1)) (zp_row S1 o).length) := by unfold zp_row; rw [if_neg ho]
      rw [e1]
      refine zs_eq (wl' := zp_W 0 g1) (st' := [.int (zl_key (zp_row S1 o) (zf_ix (nI ((t + 1) * ee - 1)) (zp_row S1 o).length)), .ref 0]) rfl rfl rfl rfl ?_
      refine zs_callV (n := 1) [0, 1, 2, 3, 4, 5, 6] B (zp_takeOut hl D dA g1 S1 hR1 (zl_key (zp_row S1 o) (zf_ix (nI ((t + 1) * ee - 1)) (zp_row S1 o).length))) gX0_takeOutEach_X0_takeOut rfl ⟨rfl, by decide, by decide, by decide +kernel⟩ rfl (by rfl) rfl rfl rfl (by rfl) ⟨(by exact Nat.le_of_ble_eq_true rfl), (by exact Nat.le_of_ble_eq_true rfl)⟩ (by exact Nat.le_of_ble_eq_true rfl) ⟨(by exact Nat.le_of_ble_eq_true rfl), (by exact Nat.le_of_ble_eq_true rfl)⟩ dX0_takeOutEach_41 (by rintro v w ⟨rfl, d9, h9, rfl⟩; rfl) (fun _ _ h => h.elim) (fun _ _ h => h.elim) ?_
      rintro v w ⟨rfl, g2, hg2, rfl⟩
      refine zs_eq (wl' := zp_W 0 g2) (st' := []) rfl rfl rfl rfl ?_
      refine zs_iinc B dX0_takeOutEach_44 (i := 4) rfl (pk_m1 t) (by decide) rfl ?_
      refine zs_goto (tgt := 20) B dX0_takeOutEach_47 (by decide) ?_
      exact ih _ _ hg2 (by omega) hfin
theorem zl_drop_s {L : zr_L} {j : Nat} {q : Int32 × Int32} (h : L[j]? = some q) : L.drop j = q :: L.drop (j + 1) := by
  have hj := (List.getElem?_eq_some_iff.mp h)
  rw [List.drop_eq_getElem_cons hj.1, hj.2]
set_option maxHeartbeats 4000000 in
theorem zp_staying {l : Launch} (hl : l.stackTraces = false) (D : va_G) (dA : Nat → ClassId) (g : zp_D) (S : zp_L) (hR : zp_R S g) : zw_Sp l D dA yX0_staying wsX0_staying 3 0 0 [.ref 0] (zp_W 0 g) (fun v w => v = some (.int (nI (zl_stay S.1 S.2.1 (-1)))) ∧ w = zp_W 0 g) (fun _ _ => False) := by
  refine zw_start hl (by decide) rfl rfl (Nat.le_of_ble_eq_true rfl) ?_
  intro pr e s m args below meth c ad A hA B
  have h12 := hR.2.1.len
  refine zs_iconst (v := (-1)) B dX0_staying_0 (by decide) ?_
  refine zs_istore_n B dX0_staying_1 (i := 1) rfl (by decide) rfl ?_
  refine zs_iconst (v := 0) B dX0_staying_2 (by decide) ?_
  refine zs_istore_n B dX0_staying_3 (i := 2) rfl (by decide) rfl ?_
  obtain ⟨last, hlast⟩ : ∃ last : Int32, last = -1 := ⟨_, rfl⟩
  obtain ⟨o9, ho9⟩ : ∃ o : Option Value, o = none := ⟨_, rfl⟩
  refine zs_eq (wl' := zp_W 0 g) (lv' := [some (.ref 0), some (.int last), some (.int (nI (zz 0))), o9]) rfl (by rw [hlast, ho9]; rfl) rfl rfl ?_
  have hfin : zz 0 + zl_stay S.1 (S.2.1.drop (zz 0)) last = zl_stay S.1 S.2.1 (-1) := by rw [hlast]; show 0 + zl_stay S.1 (S.2.1.drop 0) (-1) = _; rw [List.drop_zero]; omega
  obtain ⟨k, hk⟩ : ∃ k, k + zz 0 = S.2.1.length := ⟨S.2.1.length, rfl⟩
  clear hlast ho9
  generalize zz 0 = j at hk hfin ⊢
  induction k generalizing j last o9 with
  | zero =>
    refine zs_iload_n B dX0_staying_4 (i := 2) rfl rfl ?_
    refine zs_aload_n B dX0_staying_5 (i := 0) rfl rfl ?_
    refine zs_get B fX0_staying_18 rfl rfl dX0_staying_6 ?_
    refine zs_callV (n := 0) [4, 5, 6] B (zr_count hl D dA g.2.1) gX0_staying_X2_count rfl ⟨rfl, by decide, by decide, by decide +kernel⟩ rfl (by rfl) rfl rfl rfl (by rfl) ⟨(by exact Nat.le_of_ble_eq_true rfl), (by exact Nat.le_of_ble_eq_true rfl)⟩ (by exact Nat.le_of_ble_eq_true rfl) ⟨(by exact Nat.le_of_ble_eq_true rfl), (by exact Nat.le_of_ble_eq_true rfl)⟩ dX0_staying_9 (by rintro v w ⟨rfl, rfl⟩; rfl) (fun _ _ h => h.elim) (fun _ _ h => h.elim) ?_
    rintro v w ⟨rfl, rfl⟩
    refine zs_eq (wl' := zp_W 0 g) (st' := [.int (nI S.2.1.length), .int (nI j)]) rfl rfl (by rw [← hR.2.1.1]; rfl) rfl ?_
    refine zs_icmp_ge (tgt := 46) B dX0_staying_12 (by decide) (fun h => ?_) (fun h => absurd (nI_le (show S.2.1.length ≤ j by omega) (by omega)) h)
    refine zs_aload_n B dX0_staying_46 (i := 0) rfl rfl ?_
    refine zs_get B fX0_staying_18 rfl rfl dX0_staying_47 ?_
    refine zs_callV (n := 0) [4, 5, 6] B (zr_count hl D dA g.2.1) gX0_staying_X2_count rfl ⟨rfl, by decide, by decide, by decide +kernel⟩ rfl (by rfl) rfl rfl rfl (by rfl) ⟨(by exact Nat.le_of_ble_eq_true rfl), (by exact Nat.le_of_ble_eq_true rfl)⟩ (by exact Nat.le_of_ble_eq_true rfl) ⟨(by exact Nat.le_of_ble_eq_true rfl), (by exact Nat.le_of_ble_eq_true rfl)⟩ dX0_staying_50 (by rintro v w ⟨rfl, rfl⟩; rfl) (fun _ _ h => h.elim) (fun _ _ h => h.elim) ?_
    rintro v w ⟨rfl, rfl⟩
    refine zs_zret hA B rfl rfl (by decide) (by decide) ⟨?_, rfl⟩ dX0_staying_53
    rw [List.drop_eq_nil_of_le (by omega)] at hfin
    rw [← hfin, hR.2.1.1]
    show some (Value.int (nI S.2.1.length)) = some (Value.int (nI (j + 0)))
    rw [show j + 0 = S.2.1.length by omega]
  | succ k ih =>
    refine zs_iload_n B dX0_staying_4 (i := 2) rfl rfl ?_
    refine zs_aload_n B dX0_staying_5 (i := 0) rfl rfl ?_
    refine zs_get B fX0_staying_18 rfl rfl dX0_staying_6 ?_
    refine zs_callV (n := 0) [4, 5, 6] B (zr_count hl D dA g.2.1) gX0_staying_X2_count rfl ⟨rfl, by decide, by decide, by decide +kernel⟩ rfl (by rfl) rfl rfl rfl (by rfl) ⟨(by exact Nat.le_of_ble_eq_true rfl), (by exact Nat.le_of_ble_eq_true rfl)⟩ (by exact Nat.le_of_ble_eq_true rfl) ⟨(by exact Nat.le_of_ble_eq_true rfl), (by exact Nat.le_of_ble_eq_true rfl)⟩ dX0_staying_9 (by rintro v w ⟨rfl, rfl⟩; rfl) (fun _ _ h => h.elim) (fun _ _ h => h.elim) ?_
    rintro v w ⟨rfl, rfl⟩
    refine zs_eq (wl' := zp_W 0 g) (st' := [.int (nI S.2.1.length), .int (nI j)]) rfl rfl (by rw [← hR.2.1.1]; rfl) rfl ?_
    refine zs_icmp_ge (tgt := 46) B dX0_staying_12 (by decide) (fun h => absurd ((nI_leI (by omega) (by omega)).mp h) (by omega)) (fun h => ?_)
    obtain ⟨r, hr, -, -⟩ := hR.2.1.at (i := j) (by rw [hR.2.1.1]; omega)
    refine zs_aload_n B dX0_staying_15 (i := 0) rfl rfl ?_
    refine zs_get B fX0_staying_12 rfl rfl dX0_staying_16 ?_
    refine zs_aload_n B dX0_staying_19 (i := 0) rfl rfl ?_
    refine zs_get B fX0_staying_18 rfl rfl dX0_staying_20 ?_
    refine zs_iload_n B dX0_staying_23 (i := 2) rfl rfl ?_
    refine zs_callV (n := 1) [4, 5, 6] B (zr_keyIn hl D dA g.2.1 S.2.1 hR.2.1 (nI j)) gX0_staying_X2_keyIn rfl ⟨rfl, by decide, by decide, by decide +kernel⟩ rfl (by rfl) rfl rfl rfl (by rfl) ⟨(by exact Nat.le_of_ble_eq_true rfl), (by exact Nat.le_of_ble_eq_true rfl)⟩ (by exact Nat.le_of_ble_eq_true rfl) ⟨(by exact Nat.le_of_ble_eq_true rfl), (by exact Nat.le_of_ble_eq_true rfl)⟩ dX0_staying_24 (by rintro v w ⟨rfl, rfl⟩; rfl) (fun _ _ h => h.elim) (fun _ _ h => h.elim) ?_
    rintro v w ⟨rfl, rfl⟩
    rw [zl_key_at h12 hr]
    refine zs_eq (wl' := zp_W 0 g) (st' := [.int r.1, .ref 1]) rfl rfl rfl rfl ?_
    refine zs_callV (n := 1) [1, 2, 3] B (zr_find hl D dA g.1 S.1 hR.1 r.1) gX0_staying_X2_find rfl ⟨rfl, by decide, by decide, by decide +kernel⟩ rfl (by rfl) rfl rfl rfl (by rfl) ⟨(by exact Nat.le_of_ble_eq_true rfl), (by exact Nat.le_of_ble_eq_true rfl)⟩ (by exact Nat.le_of_ble_eq_true rfl) ⟨(by exact Nat.le_of_ble_eq_true rfl), (by exact Nat.le_of_ble_eq_true rfl)⟩ dX0_staying_27 (by rintro v w ⟨rfl, rfl⟩; rfl) (fun _ _ h => h.elim) (fun _ _ h => h.elim) ?_
    rintro v w ⟨rfl, rfl⟩
    refine zs_eq (wl' := zp_W 0 g) (st' := [.int (zl_fi S.1 r.1)]) rfl rfl rfl rfl ?_
    rw [zl_drop_s hr] at hfin
    refine zs_istore_n B dX0_staying_30 (i := 3) rfl (by decide) rfl ?_
    refine zs_iload_n B dX0_staying_31 (i := 3) rfl rfl ?_
    refine zs_iload_n B dX0_staying_32 (i := 1) rfl rfl ?_
    refine zs_icmp_ge (tgt := 38) B dX0_staying_33 (by decide) (fun h2 => ?_) (fun h2 => ?_)
    · have h3 : ¬ zl_fi S.1 r.1 < last := by rw [Int32.lt_iff_toInt_lt]; have := Int32.le_iff_toInt_le.mp h2; omega
      refine zs_iload_n B dX0_staying_38 (i := 3) rfl rfl ?_
      refine zs_istore_n B dX0_staying_39 (i := 1) rfl (by decide) rfl ?_
      refine zs_iinc B dX0_staying_40 (i := 2) rfl (nI_1 j) (by decide) rfl ?_
      refine zs_goto (tgt := 4) B dX0_staying_43 (by decide) ?_
      refine ih (zl_fi S.1 r.1) (some (.int (zl_fi S.1 r.1))) (j + 1) (by omega) ?_
      rw [← hfin]
      show _ = j + (if zl_fi S.1 r.1 < last then 0 else zl_stay S.1 (S.2.1.drop (j + 1)) (zl_fi S.1 r.1) + 1)
      rw [if_neg h3]
      omega
    · have h3 : zl_fi S.1 r.1 < last := by rw [Int32.lt_iff_toInt_lt]; rw [Int32.le_iff_toInt_le] at h2; omega
      refine zs_iload_n B dX0_staying_36 (i := 2) rfl rfl ?_
      refine zs_zret hA B rfl rfl (by decide) (by decide) ⟨?_, rfl⟩ dX0_staying_37
      rw [← hfin]
      show _ = some (Value.int (nI (j + (if zl_fi S.1 r.1 < last then 0 else zl_stay S.1 (S.2.1.drop (j + 1)) (zl_fi S.1 r.1) + 1))))
      rw [if_pos h3]
      rfl
theorem zl_at_some {L : zr_L} {j : Nat} {q : Int32 × Int32} (h : L[j]? = some q) : zl_at L j = q.1 := by
  unfold zl_at zl_key
  rw [Option.bind_some, h]
theorem zl_cr1_le (C A : zr_L) (x : Int32) : ∀ m, zl_cr1 C A x m ≤ m
  | 0 => Nat.le_refl _
  | m + 1 => by
    have := zl_cr1_le C A x m
    show zl_cr1 C A x m + (if x < zl_fi C (zl_at A m) then 1 else 0) ≤ m + 1
    split <;> omega
theorem zl_cr_le (C A : zr_L) : ∀ m, zl_cr C A m ≤ m * m
  | 0 => Nat.le_refl _
  | m + 1 => by
    have h1 := zl_cr_le C A m
    have h2 := zl_cr1_le C A (zl_fi C (zl_at A m)) m
    show zl_cr C A m + zl_cr1 C A (zl_fi C (zl_at A m)) m ≤ (m + 1) * (m + 1)
    have : (m + 1) * (m + 1) = m * m + m + m + 1 := by rw [Nat.add_mul, Nat.mul_add]; omega
    omega
set_option maxHeartbeats 8000000 in
theorem zp_crossedPairs {l : Launch} (hl : l.stackTraces = false) (D : va_G) (dA : Nat → ClassId) (g : zp_D) (S : zp_L) (hR : zp_R S g) : zw_Sp l D dA yX0_crossedPairs wsX0_crossedPairs 3 0 0 [.ref 0] (zp_W 0 g) (fun v w => v = some (.int (nI (zl_cr S.1 S.2.1 S.2.1.length))) ∧ w = zp_W 0 g) (fun _ _ => False) := by
  refine zw_start hl (by decide) rfl rfl (Nat.le_of_ble_eq_true rfl) ?_
  intro pr e s m args below meth c ad A hA B
  have h12 := hR.2.1.len
  refine zs_iconst (v := 0) B dX0_crossedPairs_0 (by decide) ?_
  refine zs_istore_n B dX0_crossedPairs_1 (i := 1) rfl (by decide) rfl ?_
  refine zs_iconst (v := 1) B dX0_crossedPairs_2 (by decide) ?_
  refine zs_istore_n B dX0_crossedPairs_3 (i := 2) rfl (by decide) rfl ?_
  obtain ⟨o3, ho3⟩ : ∃ o : Option Value, o = none := ⟨_, rfl⟩
  obtain ⟨o4, ho4⟩ : ∃ o : Option Value, o = none := ⟨_, rfl⟩
  obtain ⟨cnt, hcnt⟩ : ∃ cnt : Nat, cnt = zl_cr S.1 S.2.1 (zz 1) := ⟨_, rfl⟩
  have hc1 : zl_cr S.1 S.2.1 1 = 0 := rfl
  refine zs_eq (wl' := zp_W 0 g) (lv' := [some (.ref 0), some (.int (nI cnt)), some (.int (nI (zz 1))), o3, o4]) rfl (by rw [hcnt, ho3, ho4]; rfl) rfl rfl ?_
  obtain ⟨M, hM0, hM1⟩ : ∃ M : Nat, (S.2.1.length = 0 → M = 1) ∧ (1 ≤ S.2.1.length → M = S.2.1.length) := by
    by_cases h : S.2.1.length = 0
    · exact ⟨1, fun _ => rfl, fun h1 => by omega⟩
    · exact ⟨S.2.1.length, fun h1 => absurd h1 h, fun _ => rfl⟩
  have hMM : zl_cr S.1 S.2.1 M = zl_cr S.1 S.2.1 S.2.1.length := by
    by_cases h : S.2.1.length = 0
    · rw [hM0 h, h]; exact hc1
    · rw [hM1 (by omega)]
  have hM9 : 1 ≤ M := by
    by_cases h : S.2.1.length = 0
    · rw [hM0 h]; exact Nat.le_refl _
    · have := hM1 (by omega)
      omega
  obtain ⟨k, hk⟩ : ∃ k, k + zz 1 = M := ⟨M - 1, Nat.sub_add_cancel hM9⟩
  have hj1 : 1 ≤ zz 1 := Nat.le_refl _
  clear ho3 ho4
  generalize zz 1 = j at hk hcnt hj1 ⊢
  induction k generalizing j cnt o3 o4 with
  | zero =>
    refine zs_iload_n B dX0_crossedPairs_4 (i := 2) rfl rfl ?_
    refine zs_aload_n B dX0_crossedPairs_5 (i := 0) rfl rfl ?_
    refine zs_get B fX0_crossedPairs_18 rfl rfl dX0_crossedPairs_6 ?_
    refine zs_callV (n := 0) [4, 5, 6] B (zr_count hl D dA g.2.1) gX0_crossedPairs_X2_count rfl ⟨rfl, by decide, by decide, by decide +kernel⟩ rfl (by rfl) rfl rfl rfl (by rfl) ⟨(by exact Nat.le_of_ble_eq_true rfl), (by exact Nat.le_of_ble_eq_true rfl)⟩ (by exact Nat.le_of_ble_eq_true rfl) ⟨(by exact Nat.le_of_ble_eq_true rfl), (by exact Nat.le_of_ble_eq_true rfl)⟩ dX0_crossedPairs_9 (by rintro v w ⟨rfl, rfl⟩; rfl) (fun _ _ h => h.elim) (fun _ _ h => h.elim) ?_
    rintro v w ⟨rfl, rfl⟩
    refine zs_eq (wl' := zp_W 0 g) (st' := [.int (nI S.2.1.length), .int (nI j)]) rfl rfl (by rw [← hR.2.1.1]; rfl) rfl ?_
    have hnj : S.2.1.length ≤ j := by
      by_cases h : S.2.1.length = 0
      · omega
      · have := hM1 (by omega); omega
    have hj13 : j ≤ 13 := by
      by_cases h : S.2.1.length = 0
      · have := hM0 h; omega
      · have := hM1 (by omega); omega
    refine zs_icmp_ge (tgt := 75) B dX0_crossedPairs_12 (by decide) (fun h => ?_) (fun h => absurd (nI_le hnj (by omega)) h)
    refine zs_iload_n B dX0_crossedPairs_75 (i := 1) rfl rfl ?_
    refine zs_zret hA B rfl rfl (by decide) (by decide) ⟨?_, rfl⟩ dX0_crossedPairs_76
    rw [hcnt, show j = M by omega, hMM]
  | succ k ih =>
    have hjn : j < S.2.1.length := by
      by_cases h : S.2.1.length = 0
      · have := hM0 h; omega
      · have := hM1 (by omega); omega
    refine zs_iload_n B dX0_crossedPairs_4 (i := 2) rfl rfl ?_
    refine zs_aload_n B dX0_crossedPairs_5 (i := 0) rfl rfl ?_
    refine zs_get B fX0_crossedPairs_18 rfl rfl dX0_crossedPairs_6 ?_
    refine zs_callV (n := 0) [4, 5, 6] B (zr_count hl D dA g.2.1) gX0_crossedPairs_X2_count rfl ⟨rfl, by decide, by decide, by decide +kernel⟩ rfl (by rfl) rfl rfl rfl (by rfl) ⟨(by exact Nat.le_of_ble_eq_true rfl), (by exact Nat.le_of_ble_eq_true rfl)⟩ (by exact Nat.le_of_ble_eq_true rfl) ⟨(by exact Nat.le_of_ble_eq_true rfl), (by exact Nat.le_of_ble_eq_true rfl)⟩ dX0_crossedPairs_9 (by rintro v w ⟨rfl, rfl⟩; rfl) (fun _ _ h => h.elim) (fun _ _ h => h.elim) ?_
    rintro v w ⟨rfl, rfl⟩
    refine zs_eq (wl' := zp_W 0 g) (st' := [.int (nI S.2.1.length), .int (nI j)]) rfl rfl (by rw [← hR.2.1.1]; rfl) rfl ?_
    refine zs_icmp_ge (tgt := 75) B dX0_crossedPairs_12 (by decide) (fun h => absurd ((nI_leI (by omega) (by omega)).mp h) (by omega)) (fun h => ?_)
    obtain ⟨r, hr, -, -⟩ := hR.2.1.at (i := j) (by rw [hR.2.1.1]; omega)
    refine zs_aload_n B dX0_crossedPairs_15 (i := 0) rfl rfl ?_
    refine zs_get B fX0_crossedPairs_12 rfl rfl dX0_crossedPairs_16 ?_
    refine zs_aload_n B dX0_crossedPairs_19 (i := 0) rfl rfl ?_
    refine zs_get B fX0_crossedPairs_18 rfl rfl dX0_crossedPairs_20 ?_
    refine zs_iload_n B dX0_crossedPairs_23 (i := 2) rfl rfl ?_
    refine zs_callV (n := 1) [4, 5, 6] B (zr_keyIn hl D dA g.2.1 S.2.1 hR.2.1 (nI j)) gX0_crossedPairs_X2_keyIn rfl ⟨rfl, by decide, by decide, by decide +kernel⟩ rfl (by rfl) rfl rfl rfl (by rfl) ⟨(by exact Nat.le_of_ble_eq_true rfl), (by exact Nat.le_of_ble_eq_true rfl)⟩ (by exact Nat.le_of_ble_eq_true rfl) ⟨(by exact Nat.le_of_ble_eq_true rfl), (by exact Nat.le_of_ble_eq_true rfl)⟩ dX0_crossedPairs_24 (by rintro v w ⟨rfl, rfl⟩; rfl) (fun _ _ h => h.elim) (fun _ _ h => h.elim) ?_
    rintro v w ⟨rfl, rfl⟩
    rw [zl_key_at h12 hr]
    refine zs_eq (wl' := zp_W 0 g) (st' := [.int r.1, .ref 1]) rfl rfl rfl rfl ?_
    refine zs_callV (n := 1) [1, 2, 3] B (zr_find hl D dA g.1 S.1 hR.1 r.1) gX0_crossedPairs_X2_find rfl ⟨rfl, by decide, by decide, by decide +kernel⟩ rfl (by rfl) rfl rfl rfl (by rfl) ⟨(by exact Nat.le_of_ble_eq_true rfl), (by exact Nat.le_of_ble_eq_true rfl)⟩ (by exact Nat.le_of_ble_eq_true rfl) ⟨(by exact Nat.le_of_ble_eq_true rfl), (by exact Nat.le_of_ble_eq_true rfl)⟩ dX0_crossedPairs_27 (by rintro v w ⟨rfl, rfl⟩; rfl) (fun _ _ h => h.elim) (fun _ _ h => h.elim) ?_
    rintro v w ⟨rfl, rfl⟩
    refine zs_eq (wl' := zp_W 0 g) (st' := [.int (zl_fi S.1 r.1)]) rfl rfl rfl rfl ?_
    refine zs_istore_n B dX0_crossedPairs_30 (i := 3) rfl (by decide) rfl ?_
    refine zs_iconst (v := 0) B dX0_crossedPairs_31 (by decide) ?_
    refine zs_istore B dX0_crossedPairs_32 (i := 4) (by decide) rfl ?_
    obtain ⟨x, hx⟩ : ∃ x, x = zl_fi S.1 r.1 := ⟨_, rfl⟩
    have hx2 : zl_cr S.1 S.2.1 (j + 1) = cnt + zl_cr1 S.1 S.2.1 x j := by
      rw [hcnt, hx, ← zl_at_some hr]
      rfl
    obtain ⟨c2, hc2⟩ : ∃ c2 : Nat, c2 = cnt + zl_cr1 S.1 S.2.1 x (zz 0) := ⟨_, rfl⟩
    refine zs_eq (wl' := zp_W 0 g) (lv' := [some (.ref 0), some (.int (nI c2)), some (.int (nI j)), some (.int x), some (.int (nI (zz 0)))]) rfl (by rw [hc2, hx]; rfl) rfl rfl ?_
    obtain ⟨k2, hk2⟩ : ∃ k2, k2 + zz 0 = j := ⟨j, rfl⟩
    generalize zz 0 = i at hk2 hc2 ⊢
    induction k2 generalizing i c2 with
    | zero =>
      refine zs_iload B dX0_crossedPairs_34 (i := 4) rfl ?_
      refine zs_iload_n B dX0_crossedPairs_36 (i := 2) rfl rfl ?_
      refine zs_icmp_ge (tgt := 69) B dX0_crossedPairs_37 (by decide) (fun h => ?_) (fun h => absurd (nI_le (show j ≤ i by omega) (by omega)) h)
      refine zs_iinc B dX0_crossedPairs_69 (i := 2) rfl (nI_1 j) (by decide) rfl ?_
      refine zs_goto (tgt := 4) B dX0_crossedPairs_72 (by decide) ?_
      exact ih (some (.int x)) (some (.int (nI i))) c2 (j + 1) (by omega) (by rw [hc2, hx2, show i = j by omega]) (by omega)
    | succ k2 ih2 =>
      refine zs_iload B dX0_crossedPairs_34 (i := 4) rfl ?_
      refine zs_iload_n B dX0_crossedPairs_36 (i := 2) rfl rfl ?_
      refine zs_icmp_ge (tgt := 69) B dX0_crossedPairs_37 (by decide) (fun h => absurd ((nI_leI (by omega) (by omega)).mp h) (by omega)) (fun h => ?_)
      obtain ⟨r2, hr2, -, -⟩ := hR.2.1.at (i := i) (by rw [hR.2.1.1]; omega)
      refine zs_aload_n B dX0_crossedPairs_40 (i := 0) rfl rfl ?_
      refine zs_get B fX0_crossedPairs_12 rfl rfl dX0_crossedPairs_41 ?_
      refine zs_aload_n B dX0_crossedPairs_44 (i := 0) rfl rfl ?_
      refine zs_get B fX0_crossedPairs_18 rfl rfl dX0_crossedPairs_45 ?_
      refine zs_iload B dX0_crossedPairs_48 (i := 4) rfl ?_
      refine zs_callV (n := 1) [4, 5, 6] B (zr_keyIn hl D dA g.2.1 S.2.1 hR.2.1 (nI i)) gX0_crossedPairs_X2_keyIn rfl ⟨rfl, by decide, by decide, by decide +kernel⟩ rfl (by rfl) rfl rfl rfl (by rfl) ⟨(by exact Nat.le_of_ble_eq_true rfl), (by exact Nat.le_of_ble_eq_true rfl)⟩ (by exact Nat.le_of_ble_eq_true rfl) ⟨(by exact Nat.le_of_ble_eq_true rfl), (by exact Nat.le_of_ble_eq_true rfl)⟩ dX0_crossedPairs_50 (by rintro v w ⟨rfl, rfl⟩; rfl) (fun _ _ h => h.elim) (fun _ _ h => h.elim) ?_
      rintro v w ⟨rfl, rfl⟩
      rw [zl_key_at h12 hr2]
      refine zs_eq (wl' := zp_W 0 g) (st' := [.int r2.1, .ref 1]) rfl rfl rfl rfl ?_
      refine zs_callV (n := 1) [1, 2, 3] B (zr_find hl D dA g.1 S.1 hR.1 r2.1) gX0_crossedPairs_X2_find rfl ⟨rfl, by decide, by decide, by decide +kernel⟩ rfl (by rfl) rfl rfl rfl (by rfl) ⟨(by exact Nat.le_of_ble_eq_true rfl), (by exact Nat.le_of_ble_eq_true rfl)⟩ (by exact Nat.le_of_ble_eq_true rfl) ⟨(by exact Nat.le_of_ble_eq_true rfl), (by exact Nat.le_of_ble_eq_true rfl)⟩ dX0_crossedPairs_53 (by rintro v w ⟨rfl, rfl⟩; rfl) (fun _ _ h => h.elim) (fun _ _ h => h.elim) ?_
      rintro v w ⟨rfl, rfl⟩
      refine zs_eq (wl' := zp_W 0 g) (st' := [.int (zl_fi S.1 r2.1)]) rfl rfl rfl rfl ?_
      refine zs_iload_n B dX0_crossedPairs_56 (i := 3) rfl rfl ?_
      have e3 : zl_cr1 S.1 S.2.1 x (i + 1) = zl_cr1 S.1 S.2.1 x i + (if x < zl_fi S.1 r2.1 then 1 else 0) := by
        rw [← zl_at_some hr2]
        rfl
      refine zs_icmp_le (tgt := 63) B dX0_crossedPairs_57 (by decide) (fun h3 => ?_) (fun h3 => ?_)
      · have h4 : ¬ x < zl_fi S.1 r2.1 := by rw [Int32.lt_iff_toInt_lt]; have := Int32.le_iff_toInt_le.mp h3; omega
        rw [if_neg h4] at e3
        refine zs_iinc B dX0_crossedPairs_63 (i := 4) rfl (nI_1 i) (by decide) rfl ?_
        refine zs_goto (tgt := 34) B dX0_crossedPairs_66 (by decide) ?_
        exact ih2 c2 (i + 1) (by omega) (by rw [e3, hc2, Nat.add_zero])
      · have h4 : x < zl_fi S.1 r2.1 := by rw [Int32.lt_iff_toInt_lt]; rw [Int32.le_iff_toInt_le] at h3; omega
        rw [if_pos h4] at e3
        refine zs_iinc B dX0_crossedPairs_60 (i := 1) rfl (nI_1 c2) (by decide) rfl ?_
        refine zs_iinc B dX0_crossedPairs_63 (i := 4) rfl (nI_1 i) (by decide) rfl ?_
        refine zs_goto (tgt := 34) B dX0_crossedPairs_66 (by decide) ?_
        exact ih2 (c2 + 1) (i + 1) (by omega) (by rw [e3, hc2]; omega)
set_option maxHeartbeats 4000000 in
theorem zp_become {l : Launch} (hl : l.stackTraces = false) (D : va_G) (dA : Nat → ClassId) (g0 g : zp_D) (S : zp_L) (hR : zp_R S g) (hby : narrow .char (.int g.2.2.2) = .int g.2.2.2 ∧ fits .char (.int g.2.2.2) = true) : zw_Sp l D dA yX0_become wsX0_become 3 0 0 [.ref 0, .ref 7] (zp_W 0 g0 ++ zp_W 7 g) (fun v w => v = none ∧ ∃ g', zp_R S g' ∧ w = zp_W 0 g' ++ zp_W 7 g) (fun _ _ => False) := by
  refine zw_start hl (by decide) rfl rfl (Nat.le_of_ble_eq_true rfl) ?_
  intro pr e s m args below meth c ad A hA B
  refine zs_aload_n B dX0_become_0 (i := 0) rfl rfl ?_
  refine zs_get B fX0_become_12 rfl rfl dX0_become_1 ?_
  refine zs_aload_n B dX0_become_4 (i := 1) rfl rfl ?_
  refine zs_get B fX0_become_12 rfl rfl dX0_become_5 ?_
  refine zs_callV (n := 1) [1, 2, 3, 8, 9, 10] B (zr_become hl D dA g.1 g0.1 S.1 hR.1) gX0_become_X2_become rfl ⟨rfl, by decide, by decide, by decide +kernel⟩ rfl (by rfl) rfl rfl rfl (by rfl) ⟨(by exact Nat.le_of_ble_eq_true rfl), (by exact Nat.le_of_ble_eq_true rfl)⟩ (by exact Nat.le_of_ble_eq_true rfl) ⟨(by exact Nat.le_of_ble_eq_true rfl), (by exact Nat.le_of_ble_eq_true rfl)⟩ dX0_become_8 (by rintro v w ⟨rfl, d9, h9, rfl⟩; rfl) (fun _ _ h => h.elim) (fun _ _ h => h.elim) ?_
  rintro v w ⟨rfl, d1, hd1, rfl⟩
  refine zs_eq (wl' := zp_W 0 (d1, g0.2) ++ zp_W 7 g) (st' := []) rfl rfl rfl rfl ?_
  refine zs_aload_n B dX0_become_11 (i := 0) rfl rfl ?_
  refine zs_get B fX0_become_18 rfl rfl dX0_become_12 ?_
  refine zs_aload_n B dX0_become_15 (i := 1) rfl rfl ?_
  refine zs_get B fX0_become_18 rfl rfl dX0_become_16 ?_
  refine zs_callV (n := 1) [4, 5, 6, 11, 12, 13] B (zr_become hl D dA g.2.1 g0.2.1 S.2.1 hR.2.1) gX0_become_X2_become rfl ⟨rfl, by decide, by decide, by decide +kernel⟩ rfl (by rfl) rfl rfl rfl (by rfl) ⟨(by exact Nat.le_of_ble_eq_true rfl), (by exact Nat.le_of_ble_eq_true rfl)⟩ (by exact Nat.le_of_ble_eq_true rfl) ⟨(by exact Nat.le_of_ble_eq_true rfl), (by exact Nat.le_of_ble_eq_true rfl)⟩ dX0_become_19 (by rintro v w ⟨rfl, d9, h9, rfl⟩; rfl) (fun _ _ h => h.elim) (fun _ _ h => h.elim) ?_
  rintro v w ⟨rfl, d2, hd2, rfl⟩
  refine zs_eq (wl' := zp_W 0 (d1, d2, g0.2.2) ++ zp_W 7 g) (st' := []) rfl rfl rfl rfl ?_
  refine zs_aload_n B dX0_become_22 (i := 0) rfl rfl ?_
  refine zs_aload_n B dX0_become_23 (i := 1) rfl rfl ?_
  refine zs_get B fX0_become_21 rfl rfl dX0_become_24 ?_
  refine zs_put B (wX0_become_21 rfl rfl) rfl (Nat.le_of_ble_eq_true rfl) dX0_become_27 ?_
  refine zs_aload_n B dX0_become_30 (i := 0) rfl rfl ?_
  refine zs_aload_n B dX0_become_31 (i := 1) rfl rfl ?_
  refine zs_get B fX0_become_25 rfl rfl dX0_become_32 ?_
  refine zs_put B (wX0_become_25 hby.1 hby.2) rfl (Nat.le_of_ble_eq_true rfl) dX0_become_35 ?_
  exact zs_vret hA B rfl (by decide) (by decide) ⟨rfl, (d1, d2, g.2.2), ⟨hd1, hd2, hR.2.2⟩, rfl⟩ dX0_become_38
