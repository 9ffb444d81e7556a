/-! what the model's rows tell, and how it keeps them -/
def zm_key (L : zr_L) (f : Nat → Int32) : Prop := ∀ (i : Nat) (q : Int32 × Int32), L[i]? = some q → f i = q.1
def zm_val (L : zr_L) (f : Nat → Int32) : Prop := ∀ (i : Nat) (q : Int32 × Int32), L[i]? = some q → f i = q.2
def zm_P (S : zp_L) (c x k : Nat → Int32) (sz li wy : Int32) : Prop := sz = nI S.1.length ∧ zm_key S.1 c ∧ zm_val S.1 x ∧ zm_key S.2.1 k ∧ li = S.2.2.1 ∧ wy = S.2.2.2
def zm_pg (S : zp_L) (a : zm_A) (m : Nat) : Prop := zm_P S (a (5 + m)) (a (14 + m)) (a (23 + m)) (a 31 m) (a 32 m) (a 33 m)
def zm_kp (a a' : zm_A) (t : Nat) : Prop := (∀ (m : Nat) (S' : zp_L), m < 8 → m ≠ t → zm_pg S' a m → zm_pg S' a' m) ∧ a' 1 = a 1 ∧ a' 2 = a 2 ∧ a' 3 = a 3 ∧ a' 34 = a 34
theorem zm_P.cp {S : zp_L} {c x k : Nat → Int32} {sz li wy : Int32} (h : zm_P S c x k sz li wy) (h1 : S.1.length ≤ 12) (h2 : S.2.1.length ≤ 12) (c' x' k' : Nat → Int32) : zm_P S (zf_cp 13 c c') (zf_cp 13 x x') (zf_cp 13 k k') sz li wy := by
  obtain ⟨a1, a2, a3, a4, a5⟩ := h
  refine ⟨a1, fun i q hq => ?_, fun i q hq => ?_, fun i q hq => ?_, a5⟩
  · rw [zf_cp_lt _ _ (by have := (List.getElem?_eq_some_iff.mp hq).1; omega)]; exact a2 i q hq
  · rw [zf_cp_lt _ _ (by have := (List.getElem?_eq_some_iff.mp hq).1; omega)]; exact a3 i q hq
  · rw [zf_cp_lt _ _ (by have := (List.getElem?_eq_some_iff.mp hq).1; omega)]; exact a4 i q hq
/-- a page put at t -/
theorem zm_chain {a a1 a2 a3 a4 a5 a6 : zm_A} {t : Nat} (ht : t < 8) {c x k : Nat → Int32} {sz li wy : Int32} (h1 : va_up a (5 + t) (zf_cp 13 c (a (5 + t))) = a1) (h2 : va_up a1 (14 + t) (zf_cp 13 x (a1 (14 + t))) = a2) (h3 : va_up a2 (23 + t) (zf_cp 13 k (a2 (23 + t))) = a3)
    (h4 : va_up a3 31 (upd (a3 31) t sz) = a4) (h5 : va_up a4 32 (upd (a4 32) t li) = a5) (h6 : va_up a5 33 (upd (a5 33) t wy) = a6) {S : zp_L} (hS : zm_P S c x k sz li wy) (hC : S.1.length ≤ 12) (hA : S.2.1.length ≤ 12) : zm_pg S a6 t ∧ zm_kp a a6 t := by
  subst h1
  subst h2
  subst h3
  subst h4
  subst h5
  subst h6
  have hz := hS.cp hC hA
  refine ⟨?_, fun m S' hm hne hp => ?_, ?_⟩
  · unfold zm_pg
    have e1 : ∀ (k : Nat), k ≠ 31 → k ≠ 32 → k ≠ 33 → k ≠ 23 + t → k ≠ 14 + t → k ≠ 5 + t → True := fun _ _ _ _ _ _ _ => trivial
    simp only [va_up, upd, show (5 + t = 33) = False from eq_false (by omega), show (5 + t = 32) = False from eq_false (by omega), show (5 + t = 31) = False from eq_false (by omega), show (5 + t = 23 + t) = False from eq_false (by omega), show (5 + t = 14 + t) = False from eq_false (by omega),
      show (14 + t = 33) = False from eq_false (by omega), show (14 + t = 32) = False from eq_false (by omega), show (14 + t = 31) = False from eq_false (by omega), show (14 + t = 23 + t) = False from eq_false (by omega), show (14 + t = 5 + t) = False from eq_false (by omega),
      show (23 + t = 33) = False from eq_false (by omega), show (23 + t = 32) = False from eq_false (by omega), show (23 + t = 31) = False from eq_false (by omega), show (23 + t = 14 + t) = False from eq_false (by omega), show (23 + t = 5 + t) = False from eq_false (by omega),
      show (31 = 33) = False from eq_false (by omega), show (31 = 32) = False from eq_false (by omega), show (32 = 33) = False from eq_false (by omega), if_true, if_false]
    exact hz _ _ _
  · unfold zm_pg at hp ⊢
    simp only [va_up, upd, show (5 + m = 33) = False from eq_false (by omega), show (5 + m = 32) = False from eq_false (by omega), show (5 + m = 31) = False from eq_false (by omega), show (5 + m = 23 + t) = False from eq_false (by omega), show (5 + m = 14 + t) = False from eq_false (by omega), show (5 + m = 5 + t) = False from eq_false (by omega),
      show (14 + m = 33) = False from eq_false (by omega), show (14 + m = 32) = False from eq_false (by omega), show (14 + m = 31) = False from eq_false (by omega), show (14 + m = 23 + t) = False from eq_false (by omega), show (14 + m = 5 + t) = False from eq_false (by omega), show (14 + m = 14 + t) = False from eq_false (by omega),
      show (23 + m = 33) = False from eq_false (by omega), show (23 + m = 32) = False from eq_false (by omega), show (23 + m = 31) = False from eq_false (by omega), show (23 + m = 14 + t) = False from eq_false (by omega), show (23 + m = 5 + t) = False from eq_false (by omega), show (23 + m = 23 + t) = False from eq_false (by omega), show (m = t) = False from eq_false hne,
      show (31 = 33) = False from eq_false (by omega), show (31 = 32) = False from eq_false (by omega), show (32 = 33) = False from eq_false (by omega), show (31 = 23 + t) = False from eq_false (by omega), show (31 = 14 + t) = False from eq_false (by omega), show (31 = 5 + t) = False from eq_false (by omega),
      show (32 = 31) = False from eq_false (by omega), show (32 = 23 + t) = False from eq_false (by omega), show (32 = 14 + t) = False from eq_false (by omega), show (32 = 5 + t) = False from eq_false (by omega), show (33 = 32) = False from eq_false (by omega), show (33 = 31) = False from eq_false (by omega), show (33 = 23 + t) = False from eq_false (by omega), show (33 = 14 + t) = False from eq_false (by omega), show (33 = 5 + t) = False from eq_false (by omega), if_true, if_false]
    exact hp
  · have hh : ∀ n, (n = 1 ∨ n = 2 ∨ n = 3 ∨ n = 34) → ∀ F1 F2 F3 F4 F5 F6, va_up (va_up (va_up (va_up (va_up (va_up a (5 + t) F1) (14 + t) F2) (23 + t) F3) 31 F4) 32 F5) 33 F6 n = a n := by
      intro n hn F1 F2 F3 F4 F5 F6
      rw [va_up_ne _ _ (by omega), va_up_ne _ _ (by omega), va_up_ne _ _ (by omega), va_up_ne _ _ (by omega), va_up_ne _ _ (by omega), va_up_ne _ _ (by omega)]
    exact ⟨hh 1 (by omega) _ _ _ _ _ _, hh 2 (by omega) _ _ _ _ _ _, hh 3 (by omega) _ _ _ _ _ _, hh 34 (by omega) _ _ _ _ _ _⟩
theorem zm_a5 {m : Nat} (h : m < 8) : zm_ar (5 + m) := ⟨by omega, by omega, by omega, by omega, by omega, by omega, by omega, by omega⟩
theorem zm_a14 {m : Nat} (h : m < 8) : zm_ar (14 + m) := ⟨by omega, by omega, by omega, by omega, by omega, by omega, by omega, by omega⟩
theorem zm_a23 {m : Nat} (h : m < 8) : zm_ar (23 + m) := ⟨by omega, by omega, by omega, by omega, by omega, by omega, by omega, by omega⟩
theorem zm_a1 : zm_ar 1 := by unfold zm_ar; omega
theorem zm_a2 : zm_ar 2 := by unfold zm_ar; omega
theorem zm_a3 : zm_ar 3 := by unfold zm_ar; omega
theorem zm_a34 : zm_ar 34 := by unfold zm_ar; omega
set_option maxHeartbeats 8000000 in
theorem zm_moved {l : Launch} (hl : l.stackTraces = false) (D : va_G) (dA : Nat → ClassId) (a : zm_A) (v : zm_V) (f t : Nat) (hf : f < 8) (ht : t < 8) (hne : f ≠ t) (S : zp_L) (hS : zm_pg S a f) (hC : S.1.length ≤ 12) (hS2 : S.2.1.length ≤ 12) (hby : S.2.2.2 = 99 ∨ S.2.2.2 = 97) :
    zw_Sp l D dA yX5_moved wsX5_moved 1 0 0 [.ref 0, .int (nI f), .int (nI t)] (zm_W 0 (a, v)) (fun r w => r = none ∧ ∃ a', (zm_pg S a' t ∧ zm_kp a a' t) ∧ w = zm_W 0 (a', v)) (fun _ _ => False) := by
  refine zw_start hl (by decide) rfl rfl (Nat.le_of_ble_eq_true rfl) ?_
  intro pr e s m args below meth c ad A hA B
  have hR1 : (1 : Nat) ≤ (zw_rm 1 0 0).frames ∧ 22 ≤ (zw_rm 1 0 0).locals := ⟨Nat.le_of_ble_eq_true rfl, Nat.le_of_ble_eq_true rfl⟩
  refine zs_aload_n B dX5_moved_0 (i := 0) rfl rfl ?_
  refine zs_get B fX5_moved_29 rfl rfl dX5_moved_1 ?_
  refine zs_iload_n B dX5_moved_4 (i := 1) rfl rfl ?_
  refine zs_mrow 4 f (Or.inl rfl) hf rfl B dX5_moved_5 ?_
  refine zs_aload_n B dX5_moved_6 (i := 0) rfl rfl ?_
  refine zs_get B fX5_moved_29 rfl rfl dX5_moved_7 ?_
  refine zs_iload_n B dX5_moved_10 (i := 2) rfl rfl ?_
  refine zs_mrow 4 t (Or.inl rfl) ht rfl B dX5_moved_11 ?_
  refine zs_copy hl (5 + f) (5 + t) (zm_a5 hf) (zm_a5 ht) (by omega) B gX5_moved_X5_copied hR1 (Nat.le_of_ble_eq_true rfl) ⟨Nat.le_refl _, Nat.le_refl _⟩ dX5_moved_12 ?_
  generalize ha1 : va_up a (5 + t) (zf_cp 13 (a (5 + f)) (a (5 + t))) = a1
  refine zs_aload_n B dX5_moved_15 (i := 0) rfl rfl ?_
  refine zs_get B fX5_moved_32 rfl rfl dX5_moved_16 ?_
  refine zs_iload_n B dX5_moved_19 (i := 1) rfl rfl ?_
  refine zs_mrow 13 f (Or.inr (Or.inl rfl)) hf rfl B dX5_moved_20 ?_
  refine zs_aload_n B dX5_moved_21 (i := 0) rfl rfl ?_
  refine zs_get B fX5_moved_32 rfl rfl dX5_moved_22 ?_
  refine zs_iload_n B dX5_moved_25 (i := 2) rfl rfl ?_
  refine zs_mrow 13 t (Or.inr (Or.inl rfl)) ht rfl B dX5_moved_26 ?_
  refine zs_copy hl (14 + f) (14 + t) (zm_a14 hf) (zm_a14 ht) (by omega) B gX5_moved_X5_copied hR1 (Nat.le_of_ble_eq_true rfl) ⟨Nat.le_refl _, Nat.le_refl _⟩ dX5_moved_27 ?_
  have e1 : a1 (14 + f) = a (14 + f) := by rw [← ha1, va_up_ne _ _ (by omega)]
  rw [e1]
  generalize ha2 : va_up a1 (14 + t) (zf_cp 13 (a (14 + f)) (a1 (14 + t))) = a2
  refine zs_aload_n B dX5_moved_30 (i := 0) rfl rfl ?_
  refine zs_get B fX5_moved_35 rfl rfl dX5_moved_31 ?_
  refine zs_iload_n B dX5_moved_34 (i := 1) rfl rfl ?_
  refine zs_mrow 22 f (Or.inr (Or.inr rfl)) hf rfl B dX5_moved_35 ?_
  refine zs_aload_n B dX5_moved_36 (i := 0) rfl rfl ?_
  refine zs_get B fX5_moved_35 rfl rfl dX5_moved_37 ?_
  refine zs_iload_n B dX5_moved_40 (i := 2) rfl rfl ?_
  refine zs_mrow 22 t (Or.inr (Or.inr rfl)) ht rfl B dX5_moved_41 ?_
  refine zs_copy hl (23 + f) (23 + t) (zm_a23 hf) (zm_a23 ht) (by omega) B gX5_moved_X5_copied hR1 (Nat.le_of_ble_eq_true rfl) ⟨Nat.le_refl _, Nat.le_refl _⟩ dX5_moved_42 ?_
  have e2 : a2 (23 + f) = a (23 + f) := by rw [← ha2, va_up_ne _ _ (by omega), ← ha1, va_up_ne _ _ (by omega)]
  rw [e2]
  generalize ha3 : va_up a2 (23 + t) (zf_cp 13 (a (23 + f)) (a2 (23 + t))) = a3
  have e3 : a3 31 f = a 31 f := by rw [← ha3, va_up_ne _ _ (by omega), ← ha2, va_up_ne _ _ (by omega), ← ha1, va_up_ne _ _ (by omega)]
  refine zs_aload_n B dX5_moved_45 (i := 0) rfl rfl ?_
  refine zs_get B fX5_moved_38 rfl rfl dX5_moved_46 ?_
  refine zs_iload_n B dX5_moved_49 (i := 2) rfl rfl ?_
  refine zs_aload_n B dX5_moved_50 (i := 0) rfl rfl ?_
  refine zs_get B fX5_moved_38 rfl rfl dX5_moved_51 ?_
  refine zs_iload_n B dX5_moved_54 (i := 1) rfl rfl ?_
  refine zs_mget8 31 f (Or.inl rfl) hf rfl B dX5_moved_55 ?_
  refine zs_mset8 31 t (Or.inl rfl) ht rfl B dX5_moved_56 ?_
  rw [e3]
  generalize ha4 : va_up a3 31 (upd (a3 31) t (a 31 f)) = a4
  have e4 : a4 32 f = a 32 f := by rw [← ha4, va_up_ne _ _ (by omega), ← ha3, va_up_ne _ _ (by omega), ← ha2, va_up_ne _ _ (by omega), ← ha1, va_up_ne _ _ (by omega)]
  refine zs_aload_n B dX5_moved_57 (i := 0) rfl rfl ?_
  refine zs_get B fX5_moved_41 rfl rfl dX5_moved_58 ?_
  refine zs_iload_n B dX5_moved_61 (i := 2) rfl rfl ?_
  refine zs_aload_n B dX5_moved_62 (i := 0) rfl rfl ?_
  refine zs_get B fX5_moved_41 rfl rfl dX5_moved_63 ?_
  refine zs_iload_n B dX5_moved_66 (i := 1) rfl rfl ?_
  refine zs_mget8 32 f (Or.inr rfl) hf rfl B dX5_moved_67 ?_
  refine zs_mset8 32 t (Or.inr rfl) ht rfl B dX5_moved_68 ?_
  rw [e4]
  generalize ha5 : va_up a4 32 (upd (a4 32) t (a 32 f)) = a5
  have e5 : a5 33 f = a 33 f := by rw [← ha5, va_up_ne _ _ (by omega), ← ha4, va_up_ne _ _ (by omega), ← ha3, va_up_ne _ _ (by omega), ← ha2, va_up_ne _ _ (by omega), ← ha1, va_up_ne _ _ (by omega)]
  refine zs_aload_n B dX5_moved_69 (i := 0) rfl rfl ?_
  refine zs_get B fX5_moved_44 rfl rfl dX5_moved_70 ?_
  refine zs_iload_n B dX5_moved_73 (i := 2) rfl rfl ?_
  refine zs_aload_n B dX5_moved_74 (i := 0) rfl rfl ?_
  refine zs_get B fX5_moved_44 rfl rfl dX5_moved_75 ?_
  refine zs_iload_n B dX5_moved_78 (i := 1) rfl rfl ?_
  refine zs_mgetC f hf rfl B dX5_moved_79 ?_
  rw [e5]
  refine zs_msetC t ht rfl (by rw [hS.2.2.2.2.2]; exact hby) B dX5_moved_80 ?_
  generalize ha6 : va_up a5 33 (upd (a5 33) t (a 33 f)) = a6
  exact zs_vret hA B rfl (by decide) (by decide) ⟨rfl, a6, zm_chain ht ha1 ha2 ha3 ha4 ha5 ha6 hS hC hS2, rfl⟩ dX5_moved_81
