/-! the constructors of the class -/
def zw_ob (e : zw_E) : Bool := match e with
  | .inl (_, _, .inr (.inr (.inr (.inr _)))) => false
  | .inl _ => true
  | .inr _ => true
def zw_web (n : Nat) (e : zw_E) : Bool := match e with
  | .inl (_, _, .inr (.inr (.inr (.inr _)))) => false
  | .inl _ => true
  | .inr q => q.2.all (zw_wv n)
theorem zw_we_b {n : Nat} {e : zw_E} (h : zw_web n e = true) : zw_we n e := by
  cases e with
  | inl x =>
    obtain ⟨t, m, x⟩ := x
    match x, h with
    | .inl f, _ => exact trivial
    | .inr (.inl f), _ => exact trivial
    | .inr (.inr (.inl f)), _ => exact trivial
    | .inr (.inr (.inr (.inl f))), _ => exact trivial
    | .inr (.inr (.inr (.inr a))), h => cases h
  | inr q => exact h
theorem zw_wf_b {n : Nat} {wl : List zw_E} (h : wl.all (zw_web n) = true) : zw_wf n wl := fun e he => zw_we_b (List.all_eq_true.mp h e he)
theorem zw_wf_app {n : Nat} {X Y : List zw_E} (h1 : zw_wf n X) (h2 : zw_wf n Y) : zw_wf n (X ++ Y) := fun e he => (List.mem_append.mp he).elim (h1 e) (h2 e)
theorem zw_wf_cons {n : Nat} {e : zw_E} {Y : List zw_E} (h1 : zw_we n e) (h2 : zw_wf n Y) : zw_wf n (e :: Y) := fun e he => (List.mem_cons.mp he).elim (fun h => h ▸ h1) (h2 e)
theorem zd_X0 : ∀ j, j < 4 → defaultValue (tyX0 j) = vp_V [.null, .null, .int 0, .int 0] j := by decide +kernel
theorem zd_X1 : ∀ j, j < 3 → defaultValue (tyX1 j) = vp_V [.null, .int 0, .int 0] j := by decide +kernel
theorem zd_X2 : ∀ j, j < 3 → defaultValue (tyX2 j) = vp_V [.null, .null, .int 0] j := by decide +kernel
theorem zd_X3 : ∀ j, j < 4 → defaultValue (tyX3 j) = vp_V [.int 0, .int 0, .int 0, .int 0] j := by decide +kernel
theorem zd_X4 : ∀ j, j < 4 → defaultValue (tyX4 j) = vp_V [.null, .null, .null, .null] j := by decide +kernel
theorem zd_X5 : ∀ j, j < 19 → defaultValue (tyX5 j) = vp_V [.null, .null, .null, .int 0, .int 0, .int 0, .null, .null, .null, .null, .null, .null, .int 0, .int 0, .null, .int 0, .int 0, .int 0, .int 0] j := by decide +kernel
abbrev zr_0 : zr_D := (0, fun _ => 0, fun _ => 0)
abbrev zp_0 : zp_D := (zr_0, zr_0, 8, 99)
set_option maxHeartbeats 4000000 in
theorem zr_init {l : Launch} (hl : l.stackTraces = false) (D : va_G) (dA : Nat → ClassId) : zw_Sc l D dA yX2_init wsX2_init 1 2 24 [.ref 0] [.inr (2, [.null, .null, .int 0])] (fun v w => v = none ∧ w = zr_W 0 zr_0) := by
  refine zw_startC hl (by decide) rfl rfl (Nat.le_of_ble_eq_true rfl) ?_
  intro pr e s m args below meth c ad A tb hA B
  refine zs_aload_n B dX2_init_0 (i := 0) rfl rfl ?_
  refine zs_objInit B (by decide +kernel) (by decide +kernel) (by decide +kernel) ⟨(by exact Nat.le_of_ble_eq_true rfl), (by exact Nat.le_of_ble_eq_true rfl)⟩ (by exact Nat.le_of_ble_eq_true rfl) dX2_init_1 ?_
  refine zs_aload_n B dX2_init_4 (i := 0) rfl rfl ?_
  refine zs_bipush (v := 12) B dX2_init_5 (by decide) ?_
  refine zs_newa (atype := .int) (ty := .int) (t := 0) (N := 12) (a0 := (12, .inl (fun _ => 0))) B rfl rfl (by decide +kernel) (fun _ => rfl) (fun _ => rfl) (by decide) (by decide) (by decide) (zw_wf_b rfl) (by exact Nat.le_of_ble_eq_true rfl) rfl rfl ⟨(by exact Nat.le_of_ble_eq_true rfl), (by exact Nat.le_of_ble_eq_true rfl)⟩ dX2_init_7 ?_
  refine zs_putF B (wX2_init_9 rfl rfl) rfl (w9_X2) rfl (Nat.le_of_ble_eq_true rfl) dX2_init_9 ?_
  refine zs_aload_n B dX2_init_12 (i := 0) rfl rfl ?_
  refine zs_bipush (v := 12) B dX2_init_13 (by decide) ?_
  refine zs_newa (atype := .int) (ty := .int) (t := 0) (N := 12) (a0 := (12, .inl (fun _ => 0))) B rfl rfl (by decide +kernel) (fun _ => rfl) (fun _ => rfl) (by decide) (by decide) (by decide) (zw_wf_b rfl) (by exact Nat.le_of_ble_eq_true rfl) rfl rfl ⟨(by exact Nat.le_of_ble_eq_true rfl), (by exact Nat.le_of_ble_eq_true rfl)⟩ dX2_init_15 ?_
  refine zs_putF B (wX2_init_15 rfl rfl) rfl (w9_X2) rfl (Nat.le_of_ble_eq_true rfl) dX2_init_17 ?_
  refine zs_aload_n B dX2_init_20 (i := 0) rfl rfl ?_
  refine zs_iconst (v := 0) B dX2_init_21 (by decide) ?_
  refine zs_put B (wX2_init_18 rfl rfl) rfl (Nat.le_of_ble_eq_true rfl) dX2_init_22 ?_
  exact zs_vretC hA B rfl (by decide) (by decide) ⟨rfl, rfl⟩ dX2_init_25
set_option maxHeartbeats 4000000 in
theorem zt_init {l : Launch} (hl : l.stackTraces = false) (D : va_G) (dA : Nat → ClassId) : zw_Sc l D dA yX3_init wsX3_init 1 0 0 [.ref 0] [.inr (3, [.int 0, .int 0, .int 0, .int 0])] (fun v w => v = none ∧ w = zt_W (0, 99, 0, 0)) := by
  refine zw_startC hl (by decide) rfl rfl (Nat.le_of_ble_eq_true rfl) ?_
  intro pr e s m args below meth c ad A tb hA B
  refine zs_aload_n B dX3_init_0 (i := 0) rfl rfl ?_
  refine zs_objInit B (by decide +kernel) (by decide +kernel) (by decide +kernel) ⟨(by exact Nat.le_of_ble_eq_true rfl), (by exact Nat.le_of_ble_eq_true rfl)⟩ (by exact Nat.le_of_ble_eq_true rfl) dX3_init_1 ?_
  refine zs_aload_n B dX3_init_4 (i := 0) rfl rfl ?_
  refine zs_iconst (v := 0) B dX3_init_5 (by decide) ?_
  refine zs_put B (wX3_init_9 rfl rfl) rfl (Nat.le_of_ble_eq_true rfl) dX3_init_6 ?_
  refine zs_aload_n B dX3_init_9 (i := 0) rfl rfl ?_
  refine zs_bipush (v := 99) B dX3_init_10 (by decide) ?_
  refine zs_put B (wX3_init_15 rfl rfl) rfl (Nat.le_of_ble_eq_true rfl) dX3_init_12 ?_
  refine zs_aload_n B dX3_init_15 (i := 0) rfl rfl ?_
  refine zs_iconst (v := 0) B dX3_init_16 (by decide) ?_
  refine zs_put B (wX3_init_19 rfl rfl) rfl (Nat.le_of_ble_eq_true rfl) dX3_init_17 ?_
  refine zs_aload_n B dX3_init_20 (i := 0) rfl rfl ?_
  refine zs_iconst (v := 0) B dX3_init_21 (by decide) ?_
  refine zs_put B (wX3_init_23 rfl rfl) rfl (Nat.le_of_ble_eq_true rfl) dX3_init_22 ?_
  exact zs_vretC hA B rfl (by decide) (by decide) ⟨rfl, rfl⟩ dX3_init_25
set_option maxHeartbeats 4000000 in
theorem zp_init {l : Launch} (hl : l.stackTraces = false) (D : va_G) (dA : Nat → ClassId) : zw_Sc l D dA yX0_init wsX0_init 2 6 54 [.ref 0] [.inr (0, [.null, .null, .int 0, .int 0])] (fun v w => v = none ∧ w = zp_W 0 zp_0) := by
  refine zw_startC hl (by decide) rfl rfl (Nat.le_of_ble_eq_true rfl) ?_
  intro pr e s m args below meth c ad A tb hA B
  refine zs_aload_n B dX0_init_0 (i := 0) rfl rfl ?_
  refine zs_objInit B (by decide +kernel) (by decide +kernel) (by decide +kernel) ⟨(by exact Nat.le_of_ble_eq_true rfl), (by exact Nat.le_of_ble_eq_true rfl)⟩ (by exact Nat.le_of_ble_eq_true rfl) dX0_init_1 ?_
  refine zs_aload_n B dX0_init_4 (i := 0) rfl rfl ?_
  refine zs_new (ci := 2) (C := RX2) (T := TX2) (N := 3) (fs := [.null, .null, .int 0]) tyX2 B tyX2_ok rfl (by decide +kernel) (by decide +kernel) (by decide +kernel) (by decide +kernel) (zd_X2) (fun _ => rfl) (zw_wf_b rfl) (by exact Nat.le_of_ble_eq_true rfl) rfl rfl ⟨(by exact Nat.le_of_ble_eq_true rfl), (by exact Nat.le_of_ble_eq_true rfl)⟩ dX0_init_5 ?_
  refine zs_dup B dX0_init_8 rfl ?_
  refine zs_initL B (zr_init hl D dA) gX0_init_X2_init rfl (by decide +kernel) (by decide +kernel) (by decide +kernel) rfl ⟨by decide, by decide, by decide +kernel⟩ (fun _ => rfl) rfl (zw_wf_b rfl) (zw_wf_b rfl) (by exact Nat.le_of_ble_eq_true rfl) (by exact rfl) (by exact rfl) ⟨(by exact Nat.le_of_ble_eq_true rfl), (by exact Nat.le_of_ble_eq_true rfl)⟩ (by exact Nat.le_of_ble_eq_true rfl) ⟨(by exact Nat.le_of_ble_eq_true rfl), (by exact Nat.le_of_ble_eq_true rfl)⟩ (rfl) dX0_init_9 ?_
  refine zs_putF B (wX0_init_12 rfl rfl) rfl (w9_X0) rfl (Nat.le_of_ble_eq_true rfl) dX0_init_12 ?_
  refine zs_eq (wl' := [.inr (0, [.ref 1, .null, .int 0, .int 0])] ++ zr_W 1 zr_0) (st' := []) rfl rfl rfl rfl ?_
  refine zs_aload_n B dX0_init_15 (i := 0) rfl rfl ?_
  refine zs_new (ci := 2) (C := RX2) (T := TX2) (N := 3) (fs := [.null, .null, .int 0]) tyX2 B tyX2_ok rfl (by decide +kernel) (by decide +kernel) (by decide +kernel) (by decide +kernel) (zd_X2) (fun _ => rfl) (zw_wf_b rfl) (by exact Nat.le_of_ble_eq_true rfl) rfl rfl ⟨(by exact Nat.le_of_ble_eq_true rfl), (by exact Nat.le_of_ble_eq_true rfl)⟩ dX0_init_16 ?_
  refine zs_dup B dX0_init_19 rfl ?_
  refine zs_initL B (zr_init hl D dA) gX0_init_X2_init rfl (by decide +kernel) (by decide +kernel) (by decide +kernel) rfl ⟨by decide, by decide, by decide +kernel⟩ (fun _ => rfl) rfl (zw_wf_b rfl) (zw_wf_b rfl) (by exact Nat.le_of_ble_eq_true rfl) (by exact rfl) (by exact rfl) ⟨(by exact Nat.le_of_ble_eq_true rfl), (by exact Nat.le_of_ble_eq_true rfl)⟩ (by exact Nat.le_of_ble_eq_true rfl) ⟨(by exact Nat.le_of_ble_eq_true rfl), (by exact Nat.le_of_ble_eq_true rfl)⟩ (rfl) dX0_init_20 ?_
  refine zs_putF B (wX0_init_18 rfl rfl) rfl (w9_X0) rfl (Nat.le_of_ble_eq_true rfl) dX0_init_23 ?_
  refine zs_aload_n B dX0_init_26 (i := 0) rfl rfl ?_
  refine zs_bipush (v := 8) B dX0_init_27 (by decide) ?_
  refine zs_put B (wX0_init_21 rfl rfl) rfl (Nat.le_of_ble_eq_true rfl) dX0_init_29 ?_
  refine zs_aload_n B dX0_init_32 (i := 0) rfl rfl ?_
  refine zs_bipush (v := 99) B dX0_init_33 (by decide) ?_
  refine zs_put B (wX0_init_25 rfl rfl) rfl (Nat.le_of_ble_eq_true rfl) dX0_init_35 ?_
  exact zs_vretC hA B rfl (by decide) (by decide) ⟨rfl, rfl⟩ dX0_init_38
theorem zq_pg_lt (i : Nat) : ∀ j k, zq_pg i j = some k → k < i + 58 := by
  intro j k h
  unfold zq_pg va_up at h
  by_cases e7 : j = 7
  · simp only [e7, if_pos] at h; cases h; omega
  · by_cases e6 : j = 6
    · simp only [e6, if_pos] at h; cases h; omega
    · by_cases e5 : j = 5
      · simp only [e5, if_pos] at h; cases h; omega
      · by_cases e4 : j = 4
        · simp only [e4, if_pos] at h; cases h; omega
        · by_cases e3 : j = 3
          · simp only [e3, if_pos] at h; cases h; omega
          · by_cases e2 : j = 2
            · simp only [e2, if_pos] at h; cases h; omega
            · by_cases e1 : j = 1
              · simp only [e1, if_pos] at h; cases h; omega
              · by_cases e0 : j = 0
                · simp only [e0, if_pos] at h; cases h; omega
                · simp only [e7, e6, e5, e4, e3, e2, e1, e0, if_false] at h; cases h
theorem zr_wf {n i : Nat} (d : zr_D) (h : i + 3 ≤ n) : zw_wf n (zr_W i d) := by
  refine zw_wf_b ?_
  show ((decide (i + 1 < n) && (decide (i + 2 < n) && (true && true))) && (true && (true && true))) = true
  rw [decide_eq_true (by omega : i + 1 < n), decide_eq_true (by omega : i + 2 < n)]
  rfl
theorem zp_wf {n i : Nat} (g : zp_D) (h : i + 7 ≤ n) : zw_wf n (zp_W i g) := by
  refine zw_wf_cons (zw_we_b ?_) (zw_wf_app (zr_wf _ (by omega)) (zr_wf _ (by omega)))
  show (decide (i + 1 < n) && (decide (i + 4 < n) && (true && (true && true)))) = true
  rw [decide_eq_true (by omega : i + 1 < n), decide_eq_true (by omega : i + 4 < n)]
  rfl
theorem zq_wf {n i : Nat} (x : zq_D) (h : i + 58 ≤ n) : zw_wf n (zq_W i x) := by
  refine zw_wf_cons (zw_we_b ?_) (zw_wf_cons (fun j k hk => Nat.lt_of_lt_of_le (zq_pg_lt i j k hk) h) (zw_wf_app (zp_wf _ (by omega)) (zw_wf_app (zp_wf _ (by omega)) (zw_wf_app (zp_wf _ (by omega)) (zw_wf_app (zp_wf _ (by omega)) (zw_wf_app (zp_wf _ (by omega)) (zw_wf_app (zp_wf _ (by omega)) (zw_wf_app (zp_wf _ (by omega)) (zp_wf _ (by omega))))))))))
  show (decide (i + 1 < n) && (true && (true && true))) = true
  rw [decide_eq_true (by omega : i + 1 < n)]
  rfl
/-- the ring as it is being filled: n pages stand -/
def zq_pn : Nat → Nat → Option Nat
  | 0 => fun _ => none
  | k + 1 => va_up (zq_pn k) k (some (2 + 7 * k))
def zq_ps : Nat → List zw_E
  | 0 => []
  | k + 1 => zq_ps k ++ zp_W (2 + 7 * k) zp_0
theorem zq_ps_len : ∀ k, (zq_ps k).length = 7 * k
  | 0 => rfl
  | k + 1 => by
    show (zq_ps k ++ zp_W (2 + 7 * k) zp_0).length = _
    rw [List.length_append, zq_ps_len k]
    show 7 * k + 7 = _
    omega
theorem zq_ps_wf : ∀ k n, 2 + 7 * k ≤ n → zw_wf n (zq_ps k)
  | 0, n, _ => fun e he => by cases he
  | k + 1, n, h => zw_wf_app (zq_ps_wf k n (by omega)) (zp_wf _ (by omega))
theorem zq_pn_lt : ∀ n j k, zq_pn n j = some k → k < 2 + 7 * n
  | 0, j, k, h => by cases h
  | n + 1, j, k, h => by
    have h : va_up (zq_pn n) n (some (2 + 7 * n)) j = some k := h
    unfold va_up at h
    split at h
    · cases h; omega
    · have := zq_pn_lt n j k h
      omega
def zq_N (n : Nat) (k f : Int32) : List zw_E := .inr (1, [.ref 1, .int f, .int k]) :: .inl (3, 8, .inr (.inr (.inr (.inr (zq_pn n))))) :: zq_ps n
theorem zq_N_len (n : Nat) (k f : Int32) : (zq_N n k f).length = 2 + 7 * n := by
  show (zq_ps n).length + 1 + 1 = _
  rw [zq_ps_len]
  omega
theorem zq_N_wf (n m : Nat) (k f : Int32) (h : 2 + 7 * n ≤ m) : zw_wf m (zq_N n k f) := by
  refine zw_wf_cons (zw_we_b ?_) (zw_wf_cons (fun j k hk => Nat.lt_of_lt_of_le (zq_pn_lt n j k hk) h) (zq_ps_wf n m h))
  show (decide (1 < m) && (true && (true && true))) = true
  rw [decide_eq_true (by omega : 1 < m)]
  rfl
theorem zp_rn (g : zp_D) (i : Nat) : (zp_W 0 g).map (zw_rE (List.range' i 7)) = zp_W i g := rfl
set_option maxHeartbeats 4000000 in
theorem zq_init {l : Launch} (hl : l.stackTraces = false) (D : va_G) (dA : Nat → ClassId) : zw_Sc l D dA yX1_init wsX1_init 3 57 472 [.ref 0] [.inr (1, [.null, .int 0, .int 0])] (fun v w => v = none ∧ w = zq_W 0 (fun _ => zp_0, 0, 0)) := by
  refine zw_startC hl (by decide) rfl rfl (Nat.le_of_ble_eq_true rfl) ?_
  intro pr e s m args below meth c ad A tb hA B
  refine zs_aload_n B dX1_init_0 (i := 0) rfl rfl ?_
  refine zs_objInit B (by decide +kernel) (by decide +kernel) (by decide +kernel) ⟨(by exact Nat.le_of_ble_eq_true rfl), (by exact Nat.le_of_ble_eq_true rfl)⟩ (by exact Nat.le_of_ble_eq_true rfl) dX1_init_1 ?_
  refine zs_aload_n B dX1_init_4 (i := 0) rfl rfl ?_
  refine zs_bipush (v := 8) B dX1_init_5 (by decide) ?_
  refine zs_anew (t := 3) (N := 8) (C := "Twicebook$Page") B rfl (by decide +kernel) B.2.2.2.2.2.2.1.2.2.2.2.2.1 (by decide) (by decide) (by decide) (zw_wf_b rfl) (by exact Nat.le_of_ble_eq_true rfl) rfl rfl ⟨(by exact Nat.le_of_ble_eq_true rfl), (by exact Nat.le_of_ble_eq_true rfl)⟩ dX1_init_7 ?_
  refine zs_putF B (wX1_init_11 rfl rfl) rfl (w9_X1) rfl (Nat.le_of_ble_eq_true rfl) dX1_init_10 ?_
  refine zs_iconst (v := 0) B dX1_init_13 (by decide) ?_
  refine zs_istore_n B dX1_init_14 (i := 1) rfl (by decide) rfl ?_
  refine zs_eq (wl' := zq_N (zz 0) 0 0) (lv' := [some (.ref 0), some (.int (nI (zz 0)))]) (st' := []) rfl rfl rfl rfl ?_
  refine zs_widen (k := 1 + 7 * zz 0) (n := 8 + 58 * zz 0) (Nat.le_of_ble_eq_true rfl) (Nat.le_of_ble_eq_true rfl) ?_
  obtain ⟨k, hk⟩ : ∃ k, k + zz 0 = 8 := ⟨8, rfl⟩
  generalize zz 0 = j at hk ⊢
  induction k generalizing j with
  | zero =>
    have hj : j = 8 := by omega
    subst hj
    refine zs_iload_n B dX1_init_15 (i := 1) rfl rfl ?_
    refine zs_aload_n B dX1_init_16 (i := 0) rfl rfl ?_
    refine zs_get B fX1_init_11 rfl rfl dX1_init_17 ?_
    refine zs_alen (v := 8) B rfl (by decide) (by decide) dX1_init_20 ?_
    refine zs_icmp_ge (tgt := 43) B dX1_init_21 (by decide) (fun h => ?_) (fun h => absurd (by decide) h)
    refine zs_aload_n B dX1_init_43 (i := 0) rfl rfl ?_
    refine zs_iconst (v := 0) B dX1_init_44 (by decide) ?_
    refine zs_put B (wX1_init_18 rfl rfl) rfl (Nat.le_of_ble_eq_true rfl) dX1_init_45 ?_
    refine zs_aload_n B dX1_init_48 (i := 0) rfl rfl ?_
    refine zs_iconst (v := 0) B dX1_init_49 (by decide) ?_
    refine zs_put B (wX1_init_22 rfl rfl) rfl (Nat.le_of_ble_eq_true rfl) dX1_init_50 ?_
    exact zs_vretC hA B rfl (by decide) (by decide) ⟨rfl, rfl⟩ dX1_init_53
  | succ k ih =>
    have hj : j < 8 := by omega
    refine zs_iload_n B dX1_init_15 (i := 1) rfl rfl ?_
    refine zs_aload_n B dX1_init_16 (i := 0) rfl rfl ?_
    refine zs_get B fX1_init_11 rfl rfl dX1_init_17 ?_
    refine zs_alen (v := 8) B rfl (by decide) (by decide) dX1_init_20 ?_
    refine zs_icmp_ge (tgt := 43) B dX1_init_21 (by decide) (fun h => absurd ((nI_leI (by decide) (by omega)).mp (show nI 8 ≤ nI j from h)) (by omega)) (fun h => ?_)
    refine zs_aload_n B dX1_init_24 (i := 0) rfl rfl ?_
    refine zs_get B fX1_init_11 rfl rfl dX1_init_25 ?_
    refine zs_iload_n B dX1_init_28 (i := 1) rfl rfl ?_
    refine zs_new (ci := 0) (C := RX0) (T := TX0) (N := 4) (fs := [.null, .null, .int 0, .int 0]) tyX0 B tyX0_ok rfl (by decide +kernel) (by decide +kernel) (by decide +kernel) (by decide +kernel) (zd_X0) (fun _ => rfl) (zq_N_wf j _ 0 0 (by rw [zq_N_len]; exact Nat.le_refl _)) (by rw [zq_N_len]; omega) ?_ ?_ ⟨(by show 1 + 7 * j + 1 ≤ 57; omega), (by show 8 + 58 * j + 4 ≤ 472; omega)⟩ dX1_init_29 ?_
    · rw [zq_N_len]
      show ((decide (0 < 2 + 7 * j) || decide (1000 ≤ 0)) && (true && true)) = true
      rw [decide_eq_true (by omega : 0 < 2 + 7 * j)]
      rfl
    · rw [zq_N_len]
      show (true && ((decide (1 < 2 + 7 * j) || decide (1000 ≤ 1)) && true)) = true
      rw [decide_eq_true (by omega : 1 < 2 + 7 * j)]
      rfl
    refine zs_dup B dX1_init_32 rfl ?_
    refine zs_initL (wl0 := zq_N j 0 0) B (zp_init hl D dA) gX1_init_X0_init rfl (by decide +kernel) (by decide +kernel) (by decide +kernel) rfl ⟨by decide, by decide, by decide +kernel⟩ (fun _ => rfl) rfl ?_ (zp_wf zp_0 (Nat.le_refl _)) (by rw [zq_N_len]; show 2 + 7 * j + 1 + 6 < 1000; omega) ?_ ?_ ⟨(by exact Nat.le_of_ble_eq_true rfl), (by exact Nat.le_of_ble_eq_true rfl)⟩ (by exact Nat.le_of_ble_eq_true rfl) ⟨(by show 1 + 7 * j + 1 + 6 ≤ 57; omega), (by show 8 + 58 * j + 4 + 54 ≤ 472; omega)⟩ (zp_rn zp_0 _) dX1_init_33 ?_
    · rw [zq_N_len]
      exact zw_wf_app (zq_N_wf j _ 0 0 (by omega)) (zw_wf_b rfl)
    · rw [zq_N_len]
      show ((decide (0 < 2 + 7 * j + 1) || decide (1000 ≤ 0)) && (true && true)) = true
      rw [decide_eq_true (by omega : 0 < 2 + 7 * j + 1)]
      rfl
    · rw [zq_N_len]
      show ((decide (2 + 7 * j < 2 + 7 * j + 1) || decide (1000 ≤ 2 + 7 * j)) && (true && ((decide (1 < 2 + 7 * j + 1) || decide (1000 ≤ 1)) && true))) = true
      rw [decide_eq_true (by omega : 1 < 2 + 7 * j + 1), decide_eq_true (by omega : 2 + 7 * j < 2 + 7 * j + 1)]
      rfl
    refine zs_aas B j (f := zq_pn j) (vs := [.ref ((zq_N j 0 0).length + 1), .ref ((zq_N j 0 0).length + 4), .int 8, .int 99]) (n := 8) rfl ?_ hj (by decide) rfl dX1_init_36 ?_
    · rw [List.getElem?_append_right (Nat.le_refl _), Nat.sub_self]
      rfl
    refine zs_iinc B dX1_init_37 (i := 1) rfl (nI_1 j) (by decide) rfl ?_
    refine zs_goto (tgt := 15) B dX1_init_40 (by decide) ?_
    refine zs_widen (k := 1 + 7 * (j + 1)) (n := 8 + 58 * (j + 1)) (by omega) (by omega) ?_
    refine zs_eq (wl' := zq_N (j + 1) 0 0) ?_ rfl rfl rfl (ih (j + 1) (by omega))
    rw [zq_N_len]
    rfl
/-- the whole world is well told -/
theorem zb_wf {n : Nat} (x : zb_D) (h : 70 ≤ n) : zw_wf n (zb_W x) := by
  refine zw_wf_cons (zw_we_b ?_) (zw_wf_app (zp_wf _ (by omega)) (zw_wf_app (zq_wf _ (by omega)) (zw_wf_app (zw_wf_b rfl) (zr_wf _ (by omega)))))
  show (decide (1 < n) && (decide (8 < n) && (decide (66 < n) && (decide (67 < n) && true)))) = true
  rw [decide_eq_true (by omega : 1 < n), decide_eq_true (by omega : 8 < n), decide_eq_true (by omega : 66 < n), decide_eq_true (by omega : 67 < n)]
  rfl
abbrev zq_0 : zq_D := (fun _ => zp_0, 0, 0)
abbrev zb_0 : zb_D := (zp_0, zq_0, (0, 99, 0, 0), zr_0)
set_option maxHeartbeats 4000000 in
theorem zb_init {l : Launch} (hl : l.stackTraces = false) (D : va_G) (dA : Nat → ClassId) : zw_Sc l D dA yX4_init wsX4_init 4 69 564 [.ref 0] [.inr (4, [.null, .null, .null, .null])] (fun v w => v = none ∧ w = zb_W zb_0) := by
  refine zw_startC hl (by decide) rfl rfl (Nat.le_of_ble_eq_true rfl) ?_
  intro pr e s m args below meth c ad A tb hA B
  refine zs_aload_n B dX4_init_0 (i := 0) rfl rfl ?_
  refine zs_objInit B (by decide +kernel) (by decide +kernel) (by decide +kernel) ⟨(by exact Nat.le_of_ble_eq_true rfl), (by exact Nat.le_of_ble_eq_true rfl)⟩ (by exact Nat.le_of_ble_eq_true rfl) dX4_init_1 ?_
  refine zs_aload_n B dX4_init_4 (i := 0) rfl rfl ?_
  refine zs_new (ci := 0) (C := RX0) (T := TX0) (N := 4) (fs := [.null, .null, .int 0, .int 0]) tyX0 B tyX0_ok rfl (by decide +kernel) (by decide +kernel) (by decide +kernel) (by decide +kernel) (zd_X0) (fun _ => rfl) (zw_wf_b rfl) (by exact Nat.le_of_ble_eq_true rfl) rfl rfl ⟨(by exact Nat.le_of_ble_eq_true rfl), (by exact Nat.le_of_ble_eq_true rfl)⟩ dX4_init_5 ?_
  refine zs_dup B dX4_init_8 rfl ?_
  refine zs_initL B (zp_init hl D dA) gX4_init_X0_init rfl (by decide +kernel) (by decide +kernel) (by decide +kernel) rfl ⟨by decide, by decide, by decide +kernel⟩ (fun _ => rfl) rfl (zw_wf_b rfl) (zw_wf_b rfl) (by exact Nat.le_of_ble_eq_true rfl) (by exact rfl) (by exact rfl) ⟨(by exact Nat.le_of_ble_eq_true rfl), (by exact Nat.le_of_ble_eq_true rfl)⟩ (by exact Nat.le_of_ble_eq_true rfl) ⟨(by exact Nat.le_of_ble_eq_true rfl), (by exact Nat.le_of_ble_eq_true rfl)⟩ (rfl) dX4_init_9 ?_
  refine zs_putF B (wX4_init_10 rfl rfl) rfl (w9_X4) rfl (Nat.le_of_ble_eq_true rfl) dX4_init_12 ?_
  refine zs_eq (wl' := .inr (4, [.ref 1, .null, .null, .null]) :: zp_W 1 zp_0) (st' := []) rfl rfl rfl rfl ?_
  refine zs_aload_n B dX4_init_15 (i := 0) rfl rfl ?_
  refine zs_new (ci := 1) (C := RX1) (T := TX1) (N := 3) (fs := [.null, .int 0, .int 0]) tyX1 B tyX1_ok rfl (by decide +kernel) (by decide +kernel) (by decide +kernel) (by decide +kernel) (zd_X1) (fun _ => rfl) (zw_wf_b rfl) (by exact Nat.le_of_ble_eq_true rfl) rfl rfl ⟨(by exact Nat.le_of_ble_eq_true rfl), (by exact Nat.le_of_ble_eq_true rfl)⟩ dX4_init_16 ?_
  refine zs_dup B dX4_init_19 rfl ?_
  refine zs_initL B (zq_init hl D dA) gX4_init_X1_init rfl (by decide +kernel) (by decide +kernel) (by decide +kernel) rfl ⟨by decide, by decide, by decide +kernel⟩ (fun _ => rfl) rfl (zw_wf_b rfl) (zq_wf zq_0 (Nat.le_refl _)) (by exact Nat.le_of_ble_eq_true rfl) (by exact rfl) (by exact rfl) ⟨(by exact Nat.le_of_ble_eq_true rfl), (by exact Nat.le_of_ble_eq_true rfl)⟩ (by exact Nat.le_of_ble_eq_true rfl) ⟨(by exact Nat.le_of_ble_eq_true rfl), (by exact Nat.le_of_ble_eq_true rfl)⟩ (zq_rn zq_0) dX4_init_20 ?_
  refine zs_putF B (wX4_init_19 rfl rfl) rfl (w9_X4) rfl (Nat.le_of_ble_eq_true rfl) dX4_init_23 ?_
  refine zs_eq (wl' := .inr (4, [.ref 1, .ref 8, .null, .null]) :: (zp_W 1 zp_0 ++ zq_W 8 zq_0)) (st' := []) rfl rfl rfl rfl ?_
  refine zs_aload_n B dX4_init_26 (i := 0) rfl rfl ?_
  refine zs_new (ci := 3) (C := RX3) (T := TX3) (N := 4) (fs := [.int 0, .int 0, .int 0, .int 0]) tyX3 B tyX3_ok rfl (by decide +kernel) (by decide +kernel) (by decide +kernel) (by decide +kernel) (zd_X3) (fun _ => rfl) (zw_wf_cons (zw_we_b rfl) (zw_wf_app (zp_wf _ (by exact Nat.le_of_ble_eq_true rfl)) (zq_wf _ (by exact Nat.le_of_ble_eq_true rfl)))) (by exact Nat.le_of_ble_eq_true rfl) rfl rfl ⟨(by exact Nat.le_of_ble_eq_true rfl), (by exact Nat.le_of_ble_eq_true rfl)⟩ dX4_init_27 ?_
  refine zs_dup B dX4_init_30 rfl ?_
  refine zs_initL B (zt_init hl D dA) gX4_init_X3_init rfl (by decide +kernel) (by decide +kernel) (by decide +kernel) rfl ⟨by decide, by decide, by decide +kernel⟩ (fun _ => rfl) rfl (zw_wf_cons (zw_we_b rfl) (zw_wf_app (zw_wf_app (zp_wf _ (by exact Nat.le_of_ble_eq_true rfl)) (zq_wf _ (by exact Nat.le_of_ble_eq_true rfl))) (zw_wf_b rfl))) (zw_wf_b rfl) (by exact Nat.le_of_ble_eq_true rfl) (by exact rfl) (by exact rfl) ⟨(by exact Nat.le_of_ble_eq_true rfl), (by exact Nat.le_of_ble_eq_true rfl)⟩ (by exact Nat.le_of_ble_eq_true rfl) ⟨(by exact Nat.le_of_ble_eq_true rfl), (by exact Nat.le_of_ble_eq_true rfl)⟩ (rfl) dX4_init_31 ?_
  refine zs_putF B (wX4_init_26 rfl rfl) rfl (w9_X4) rfl (Nat.le_of_ble_eq_true rfl) dX4_init_34 ?_
  refine zs_eq (wl' := .inr (4, [.ref 1, .ref 8, .ref 66, .null]) :: (zp_W 1 zp_0 ++ (zq_W 8 zq_0 ++ zt_W (0, 99, 0, 0)))) (st' := []) rfl rfl rfl rfl ?_
  refine zs_aload_n B dX4_init_37 (i := 0) rfl rfl ?_
  refine zs_new (ci := 2) (C := RX2) (T := TX2) (N := 3) (fs := [.null, .null, .int 0]) tyX2 B tyX2_ok rfl (by decide +kernel) (by decide +kernel) (by decide +kernel) (by decide +kernel) (zd_X2) (fun _ => rfl) (zw_wf_cons (zw_we_b rfl) (zw_wf_app (zp_wf _ (by exact Nat.le_of_ble_eq_true rfl)) (zw_wf_app (zq_wf _ (by exact Nat.le_of_ble_eq_true rfl)) (zw_wf_b rfl)))) (by exact Nat.le_of_ble_eq_true rfl) rfl rfl ⟨(by exact Nat.le_of_ble_eq_true rfl), (by exact Nat.le_of_ble_eq_true rfl)⟩ dX4_init_38 ?_
  refine zs_dup B dX4_init_41 rfl ?_
  refine zs_initL B (zr_init hl D dA) gX4_init_X2_init rfl (by decide +kernel) (by decide +kernel) (by decide +kernel) rfl ⟨by decide, by decide, by decide +kernel⟩ (fun _ => rfl) rfl (zw_wf_cons (zw_we_b rfl) (zw_wf_app (zw_wf_app (zp_wf _ (by exact Nat.le_of_ble_eq_true rfl)) (zw_wf_app (zq_wf _ (by exact Nat.le_of_ble_eq_true rfl)) (zw_wf_b rfl))) (zw_wf_b rfl))) (zw_wf_b rfl) (by exact Nat.le_of_ble_eq_true rfl) (by exact rfl) (by exact rfl) ⟨(by exact Nat.le_of_ble_eq_true rfl), (by exact Nat.le_of_ble_eq_true rfl)⟩ (by exact Nat.le_of_ble_eq_true rfl) ⟨(by exact Nat.le_of_ble_eq_true rfl), (by exact Nat.le_of_ble_eq_true rfl)⟩ (rfl) dX4_init_42 ?_
  refine zs_putF B (wX4_init_33 rfl rfl) rfl (w9_X4) rfl (Nat.le_of_ble_eq_true rfl) dX4_init_45 ?_
  exact zs_vretC hA B rfl (by decide) (by decide) ⟨rfl, rfl⟩ dX4_init_48
