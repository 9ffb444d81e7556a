/-! the model keeps a page -/
def zm_H (hist : List zp_L) (a : zm_A) (n : Nat) : Prop := n = hist.length ∧ hist.length ≤ 8 ∧ ∀ (j : Nat) (S : zp_L), hist[j]? = some S → zm_pg S a (hist.length - 1 - j)
def zm_g (S : zp_L) : Prop := S.1.length ≤ 12 ∧ S.2.1.length ≤ 12 ∧ (S.2.2.2 = 99 ∨ S.2.2.2 = 97)
def zm_v3 (v : zm_V) (x : Int32) : zm_V := (v.1, v.2.1, v.2.2.1, x, v.2.2.2.2)
section ZMK
variable {p : Program} {l : Launch} {e : Env} {R : Room} {s : State} {m : MethodId} {args : Array Value} {below : List Frame} {meth : Method} {c : Code} {Q : State → Prop} {nL : Nat} {ret : Option FieldType} {own nm : String} {tb : List ExceptionTableEntry} {D : va_G} {dA : Nat → ClassId} {A : Nat → Prop} {ad0 : Nat → Nat} {n0 cells slots : Nat} {z : Option Value}
set_option maxHeartbeats 8000000 in
theorem zs_pput {a : zm_A} {v : zm_V} {n : Nat} (hl : l.stackTraces = false) (hn : n < 8) (B : zw_B p l s m args meth c cX5_keeps 2 ret RX5 nm wsX5_keeps tb D dA A) (hR1 : 1 ≤ R.frames ∧ 22 ≤ R.locals) (hc : cells ≤ R.cells ∧ slots ≤ R.slots) {S : zp_L} (hS : zm_P S (a 1) (a 2) (a 3) v.1 v.2.1 v.2.2.1) (hg : zm_g S)
    (kk : ∀ a', zm_pg S a' n → zm_kp a a' n → zw_k p l e R s m args below meth c Q D dA A ad0 n0 2 cells slots (zm_W 0 (a', zm_v3 v (nI (n + 1)))) 138 [some (.ref 0), z] []) :
    zw_k p l e R s m args below meth c Q D dA A ad0 n0 2 cells slots (zm_W 0 (a, zm_v3 v (nI n))) 41 [some (.ref 0), z] [] := by
  refine zs_aload_n B dX5_keeps_41 (i := 0) rfl rfl ?_
  refine zs_get B fX5_keeps_9 rfl rfl dX5_keeps_42 ?_
  refine zs_aload_n B dX5_keeps_45 (i := 0) rfl rfl ?_
  refine zs_get B fX5_keeps_29 rfl rfl dX5_keeps_46 ?_
  refine zs_aload_n B dX5_keeps_49 (i := 0) rfl rfl ?_
  refine zs_get B fX5_keeps_64 rfl rfl dX5_keeps_50 ?_
  refine zs_mrow 4 n (Or.inl rfl) hn rfl B dX5_keeps_53 ?_
  refine zs_copy hl 1 (5 + n) zm_a1 (zm_a5 hn) (by omega) B gX5_keeps_X5_copied hR1 (Nat.le_of_ble_eq_true rfl) hc dX5_keeps_54 ?_
  generalize ha1 : va_up a (5 + n) (zf_cp 13 (a 1) (a (5 + n))) = a1
  refine zs_aload_n B dX5_keeps_57 (i := 0) rfl rfl ?_
  refine zs_get B fX5_keeps_13 rfl rfl dX5_keeps_58 ?_
  refine zs_aload_n B dX5_keeps_61 (i := 0) rfl rfl ?_
  refine zs_get B fX5_keeps_32 rfl rfl dX5_keeps_62 ?_
  refine zs_aload_n B dX5_keeps_65 (i := 0) rfl rfl ?_
  refine zs_get B fX5_keeps_64 rfl rfl dX5_keeps_66 ?_
  refine zs_mrow 13 n (Or.inr (Or.inl rfl)) hn rfl B dX5_keeps_69 ?_
  refine zs_copy hl 2 (14 + n) zm_a2 (zm_a14 hn) (by omega) B gX5_keeps_X5_copied hR1 (Nat.le_of_ble_eq_true rfl) hc dX5_keeps_70 ?_
  have e1 : a1 2 = a 2 := by rw [← ha1, va_up_ne _ _ (by omega)]
  rw [e1]
  generalize ha2 : va_up a1 (14 + n) (zf_cp 13 (a 2) (a1 (14 + n))) = a2
  refine zs_aload_n B dX5_keeps_73 (i := 0) rfl rfl ?_
  refine zs_get B fX5_keeps_16 rfl rfl dX5_keeps_74 ?_
  refine zs_aload_n B dX5_keeps_77 (i := 0) rfl rfl ?_
  refine zs_get B fX5_keeps_35 rfl rfl dX5_keeps_78 ?_
  refine zs_aload_n B dX5_keeps_81 (i := 0) rfl rfl ?_
  refine zs_get B fX5_keeps_64 rfl rfl dX5_keeps_82 ?_
  refine zs_mrow 22 n (Or.inr (Or.inr rfl)) hn rfl B dX5_keeps_85 ?_
  refine zs_copy hl 3 (23 + n) zm_a3 (zm_a23 hn) (by omega) B gX5_keeps_X5_copied hR1 (Nat.le_of_ble_eq_true rfl) hc dX5_keeps_86 ?_
  have e2 : a2 3 = a 3 := by rw [← ha2, va_up_ne _ _ (by omega), ← ha1, va_up_ne _ _ (by omega)]
  rw [e2]
  generalize ha3 : va_up a2 (23 + n) (zf_cp 13 (a 3) (a2 (23 + n))) = a3
  refine zs_aload_n B dX5_keeps_89 (i := 0) rfl rfl ?_
  refine zs_get B fX5_keeps_38 rfl rfl dX5_keeps_90 ?_
  refine zs_aload_n B dX5_keeps_93 (i := 0) rfl rfl ?_
  refine zs_get B fX5_keeps_64 rfl rfl dX5_keeps_94 ?_
  refine zs_aload_n B dX5_keeps_97 (i := 0) rfl rfl ?_
  refine zs_get B fX5_keeps_57 rfl rfl dX5_keeps_98 ?_
  refine zs_mset8 31 n (Or.inl rfl) hn rfl B dX5_keeps_101 ?_
  generalize ha4 : va_up a3 31 (upd (a3 31) n _) = a4
  refine zs_aload_n B dX5_keeps_102 (i := 0) rfl rfl ?_
  refine zs_get B fX5_keeps_41 rfl rfl dX5_keeps_103 ?_
  refine zs_aload_n B dX5_keeps_106 (i := 0) rfl rfl ?_
  refine zs_get B fX5_keeps_64 rfl rfl dX5_keeps_107 ?_
  refine zs_aload_n B dX5_keeps_110 (i := 0) rfl rfl ?_
  refine zs_get B fX5_keeps_19 rfl rfl dX5_keeps_111 ?_
  refine zs_mset8 32 n (Or.inr rfl) hn rfl B dX5_keeps_114 ?_
  generalize ha5 : va_up a4 32 (upd (a4 32) n _) = a5
  refine zs_aload_n B dX5_keeps_115 (i := 0) rfl rfl ?_
  refine zs_get B fX5_keeps_44 rfl rfl dX5_keeps_116 ?_
  refine zs_aload_n B dX5_keeps_119 (i := 0) rfl rfl ?_
  refine zs_get B fX5_keeps_64 rfl rfl dX5_keeps_120 ?_
  refine zs_aload_n B dX5_keeps_123 (i := 0) rfl rfl ?_
  refine zs_get B fX5_keeps_23 rfl rfl dX5_keeps_124 ?_
  refine zs_msetC n hn rfl (by show v.2.2.1 = 99 ∨ v.2.2.1 = 97; rw [hS.2.2.2.2.2]; exact hg.2.2) B dX5_keeps_127 ?_
  generalize ha6 : va_up a5 33 (upd (a5 33) n _) = a6
  obtain ⟨q1, q2⟩ := zm_chain hn ha1 ha2 ha3 ha4 ha5 ha6 hS hg.1 hg.2.1
  refine zs_aload_n B dX5_keeps_128 (i := 0) rfl rfl ?_
  refine zs_dup B dX5_keeps_129 rfl ?_
  refine zs_get B fX5_keeps_64 rfl rfl dX5_keeps_130 ?_
  refine zs_iconst (v := 1) B dX5_keeps_133 (by decide) ?_
  refine zs_iadd B dX5_keeps_134 ?_
  refine zs_topi (fun y hy => ?_)
  have hy : y = nI (n + 1) := by rw [hy]; exact nI_1 n
  subst hy
  refine zs_put B (wX5_keeps_64 rfl rfl) rfl (Nat.le_of_ble_eq_true rfl) dX5_keeps_135 ?_
  exact zs_eq rfl rfl rfl rfl (kk a6 q1 q2)
end ZMK
theorem zm_H.push {hist : List zp_L} {a a' : zm_A} {n : Nat} (h : zm_H hist a n) (hn : n < 8) {S : zp_L} (h1 : zm_pg S a' n) (h2 : zm_kp a a' n) : zm_H (S :: hist) a' (n + 1) := by
  obtain ⟨e, hle, hp⟩ := h
  refine ⟨by rw [List.length_cons, e], by rw [List.length_cons]; omega, fun j S' hj => ?_⟩
  rw [List.length_cons]
  cases j with
  | zero =>
    cases hj
    rw [show hist.length + 1 - 1 - 0 = n by omega]
    exact h1
  | succ j =>
    have hj : hist[j]? = some S' := hj
    have hlt := (List.getElem?_eq_some_iff.mp hj).1
    rw [show hist.length + 1 - 1 - (j + 1) = hist.length - 1 - j by omega]
    exact h2.1 _ _ (by omega) (by omega) (hp j S' hj)
theorem zm_kp.trans {a a1 a2 : zm_A} {t : Nat} (h : a1 1 = a 1 ∧ a1 2 = a 2 ∧ a1 3 = a 3 ∧ a1 34 = a 34) (h2 : zm_kp a1 a2 t) : a2 1 = a 1 ∧ a2 2 = a 2 ∧ a2 3 = a 3 ∧ a2 34 = a 34 :=
  ⟨h2.2.1.trans h.1, h2.2.2.1.trans h.2.1, h2.2.2.2.1.trans h.2.2.1, h2.2.2.2.2.trans h.2.2.2⟩
set_option maxHeartbeats 8000000 in
theorem zm_keeps {l : Launch} (hl : l.stackTraces = false) (D : va_G) (dA : Nat → ClassId) (a : zm_A) (v : zm_V) (S : zp_L) (hist : List zp_L) (n : Nat) (hS : zm_P S (a 1) (a 2) (a 3) v.1 v.2.1 v.2.2.1) (hg : zm_g S) (hH : zm_H hist a n) (hv : v.2.2.2.1 = nI n) (hG : ∀ S' ∈ hist, zm_g S') :
    zw_Sp l D dA yX5_keeps wsX5_keeps 2 0 0 [.ref 0] (zm_W 0 (a, v)) (fun r w => r = none ∧ ∃ a', (∃ n', zm_H ((S :: hist).take 8) a' n' ∧ w = zm_W 0 (a', zm_v3 v (nI n'))) ∧ (a' 1 = a 1 ∧ a' 2 = a 2 ∧ a' 3 = a 3 ∧ a' 34 = a 34)) (fun _ _ => False) := by
  refine zw_start hl (by decide) rfl rfl (Nat.le_of_ble_eq_true rfl) ?_
  intro pr e s m args below meth c ad A hA B
  have hR1 : (1 : Nat) ≤ (zw_rm 2 0 0).frames ∧ 22 ≤ (zw_rm 2 0 0).locals := ⟨Nat.le_of_ble_eq_true rfl, Nat.le_of_ble_eq_true rfl⟩
  have hn8 : n ≤ 8 := by rw [hH.1]; exact hH.2.1
  refine zs_aload_n B dX5_keeps_0 (i := 0) rfl rfl ?_
  refine zs_get B fX5_keeps_64 rfl rfl dX5_keeps_1 ?_
  refine zs_eq (wl' := zm_W 0 (a, v)) (st' := [.int (nI n)]) rfl rfl (by rw [← hv]) rfl ?_
  refine zs_bipush (v := 8) B dX5_keeps_4 (by decide) ?_
  refine zs_icmp_ne (tgt := 41) B dX5_keeps_6 (by decide) (fun h => ?_) (fun h => ?_)
  · have hn : n < 8 := by
      rcases Nat.lt_or_ge n 8 with h8 | h8
      · exact h8
      · exact absurd (show nI n = 8 by rw [show n = 8 by omega]; rfl) h
    refine zs_eq (wl' := zm_W 0 (a, zm_v3 v (nI n))) (by unfold zm_v3; rw [← hv]) rfl rfl rfl ?_
    refine zs_pput hl hn B hR1 ⟨Nat.le_refl _, Nat.le_refl _⟩ hS hg (fun a' q1 q2 => ?_)
    refine zs_vret hA B rfl (by decide) (by decide) ⟨rfl, a', ⟨n + 1, ?_, rfl⟩, q2.2⟩ dX5_keeps_138
    have h5 := hH.push hn q1 q2
    rw [List.take_of_length_le (by rw [← h5.1]; omega)]
    exact h5
  · have hn : n = 8 := by
      rcases Nat.lt_or_ge n 8 with h8 | h8
      · exact absurd h (fun q => absurd (nI_lt h8 (by omega)) (by rw [q]; decide))
      · omega
    subst hn
    have hl8 : hist.length = 8 := hH.1.symm
    refine zs_iconst (v := 1) B dX5_keeps_9 (by decide) ?_
    refine zs_istore_n B dX5_keeps_10 (i := 1) rfl (by decide) rfl ?_
    refine zs_eq (wl' := zm_W 0 (a, v)) (lv' := [some (.ref 0), some (.int (nI (zz 0 + 1)))]) rfl rfl rfl rfl ?_
    obtain ⟨a1, ha1⟩ : ∃ a1, a1 = a := ⟨_, rfl⟩
    have hkeep : a1 1 = a 1 ∧ a1 2 = a 2 ∧ a1 3 = a 3 ∧ a1 34 = a 34 := by rw [ha1]; exact ⟨rfl, rfl, rfl, rfl⟩
    have hlow : ∀ (j : Nat) (S' : zp_L), hist[j]? = some S' → 8 - 1 - j < 8 - 0 → zz 0 ≤ 8 - 1 - j → zm_pg S' a1 (8 - 1 - j) := fun j S' hj _ _ => by
      rw [ha1]
      have := hH.2.2 j S' hj
      rw [hl8] at this
      exact this
    have hdone : ∀ (j : Nat) (S' : zp_L), hist[j]? = some S' → 8 - 1 - j ≤ zz 0 → 1 ≤ 8 - 1 - j → zm_pg S' a1 (8 - 1 - j - 1) := fun j S' hj h1 h2 => absurd (show 8 - 1 - j ≤ 0 from h1) (by omega)
    obtain ⟨k, hk⟩ : ∃ k, k + zz 0 = 7 := ⟨7, rfl⟩
    refine zs_eq (wl' := zm_W 0 (a1, v)) (by rw [ha1]) rfl rfl rfl ?_
    clear ha1
    generalize zz 0 = t at hk hlow hdone ⊢
    induction k generalizing t a1 with
    | zero =>
      have ht : t = 7 := by omega
      subst ht
      refine zs_iload_n B dX5_keeps_11 (i := 1) rfl rfl ?_
      refine zs_bipush (v := 8) B dX5_keeps_12 (by decide) ?_
      refine zs_icmp_ge (tgt := 31) B dX5_keeps_14 (by decide) (fun h9 => ?_) (fun h9 => absurd (by decide) h9)
      refine zs_aload_n B dX5_keeps_31 (i := 0) rfl rfl ?_
      refine zs_dup B dX5_keeps_32 rfl ?_
      refine zs_get B fX5_keeps_64 rfl rfl dX5_keeps_33 ?_
      refine zs_eq (wl' := zm_W 0 (a1, v)) (st' := [.int (nI 8), .ref 0]) rfl rfl (by show [Value.int v.2.2.2.1, .ref 0] = _; rw [hv]) rfl ?_
      refine zs_iconst (v := 1) B dX5_keeps_36 (by decide) ?_
      refine zs_isub B dX5_keeps_37 ?_
      refine zs_topi (fun y hy => ?_)
      have hy : y = nI 7 := hy.trans (nI_pred 7)
      subst hy
      refine zs_put B (wX5_keeps_64 rfl rfl) rfl (Nat.le_of_ble_eq_true rfl) dX5_keeps_38 ?_
      have hS1 : zm_P S (a1 1) (a1 2) (a1 3) v.1 v.2.1 v.2.2.1 := by rw [hkeep.1, hkeep.2.1, hkeep.2.2.1]; exact hS
      refine zs_eq (wl' := zm_W 0 (a1, zm_v3 v (nI 7))) rfl rfl rfl rfl ?_
      refine zs_pput hl (by decide) B hR1 ⟨Nat.le_refl _, Nat.le_refl _⟩ hS1 hg (fun a' q1 q2 => ?_)
      refine zs_vret hA B rfl (by decide) (by decide) ⟨rfl, a', ⟨8, ?_, rfl⟩, zm_kp.trans hkeep q2⟩ dX5_keeps_138
      have h7 : zm_H (hist.take 7) a1 7 := by
        refine ⟨by rw [List.length_take]; omega, by rw [List.length_take]; omega, fun j S' hj => ?_⟩
        rw [List.length_take, show min 7 hist.length = 7 by omega]
        have hj7 : j < 7 := by
          have := (List.getElem?_eq_some_iff.mp hj).1
          rw [List.length_take] at this
          omega
        rw [List.getElem?_take_of_lt hj7] at hj
        have := hdone j S' hj (by omega) (by omega)
        rw [show 8 - 1 - j - 1 = 7 - 1 - j by omega] at this
        exact this
      exact h7.push (by decide) q1 q2
    | succ k ih =>
      obtain ⟨S1, hS1⟩ : ∃ S1, hist[6 - t]? = some S1 := ⟨_, List.getElem?_eq_getElem (by omega)⟩
      have hG1 := hG S1 (List.mem_of_getElem? hS1)
      have hp1 : zm_pg S1 a1 (t + 1) := by
        have := hlow (6 - t) S1 hS1 (by omega) (by omega)
        rw [show 8 - 1 - (6 - t) = t + 1 by omega] at this
        exact this
      refine zs_iload_n B dX5_keeps_11 (i := 1) rfl rfl ?_
      refine zs_bipush (v := 8) B dX5_keeps_12 (by decide) ?_
      refine zs_icmp_ge (tgt := 31) B dX5_keeps_14 (by decide) (fun h9 => absurd ((nI_leI (by decide) (by omega)).mp (show nI 8 ≤ nI (t + 1) from h9)) (by omega)) (fun h9 => ?_)
      refine zs_aload_n B dX5_keeps_17 (i := 0) rfl rfl ?_
      refine zs_iload_n B dX5_keeps_18 (i := 1) rfl rfl ?_
      refine zs_iload_n B dX5_keeps_19 (i := 1) rfl rfl ?_
      refine zs_iconst (v := 1) B dX5_keeps_20 (by decide) ?_
      refine zs_eq (wl' := zm_W 0 (a1, v)) (st' := [.int 1, .int (nI (t + 1)), .int (nI (t + 1)), .ref 0]) rfl rfl rfl rfl ?_
      refine zs_isub B dX5_keeps_21 ?_
      rw [nI_pred]
      refine zs_callV0 (n := 2) B (zm_moved hl D dA a1 v (t + 1) t (by omega) (by omega) (by omega) S1 hp1 hG1.1 hG1.2.1 hG1.2.2) gX5_keeps_X5_moved rfl ⟨rfl, by decide, by decide, by decide +kernel⟩ rfl rfl rfl (by rfl) ⟨(by exact Nat.le_of_ble_eq_true rfl), (by exact Nat.le_of_ble_eq_true rfl)⟩ (by exact Nat.le_of_ble_eq_true rfl) ⟨(by exact Nat.le_of_ble_eq_true rfl), (by exact Nat.le_of_ble_eq_true rfl)⟩ dX5_keeps_22 (by rintro v w ⟨rfl, x9, h9, rfl⟩; rfl) (fun _ _ h => h.elim) (fun _ _ h => h.elim) ?_
      rintro r w ⟨rfl, a2, ⟨q1, q2⟩, rfl⟩
      refine zs_iinc B dX5_keeps_25 (i := 1) rfl (nI_1 (t + 1)) (by decide) rfl ?_
      refine zs_goto (tgt := 11) B dX5_keeps_28 (by decide) ?_
      refine ih a2 (zm_kp.trans hkeep q2) (t + 1) (by omega) ?_ ?_
      · intro j S' hj h1 h2
        exact q2.1 _ _ (by omega) (by omega) (hlow j S' hj h1 (by omega))
      · intro j S' hj h1 h2
        by_cases hjt : 8 - 1 - j = t + 1
        · rw [hjt]
          have : j = 6 - t := by omega
          subst this
          rw [hS1] at hj
          cases hj
          exact q1
        · exact q2.1 _ _ (by omega) (by omega) (hdone j S' hj (by omega) h2)
