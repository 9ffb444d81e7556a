/-! the constructor of the model -/
def zm_ma (b : Nat) : List zw_E := .inl (4, 8, .inr (.inr (.inr (.inr (fun i => if i < 8 then some (b + 1 + i) else none))))) :: List.replicate 8 (.inl (0, 13, .inl (fun _ => 0)))
theorem zm_ma_wf {n b : Nat} (h : b + 9 ≤ n) : zw_wf n (zm_ma b) := by
  refine zw_wf_cons (fun j k hk => ?_) (zw_wf_b rfl)
  have hk : (if j < 8 then some (b + 1 + j) else none) = some k := hk
  by_cases hj : j < 8
  · rw [if_pos hj] at hk
    cases hk
    omega
  · rw [if_neg hj] at hk
    cases hk
theorem zm_bk0 (i b : Nat) : zm_bk i b = fun j => if j < 8 then some (i + b + 1 + j) else none := by
  funext j
  unfold zm_bk
  by_cases hj : j < 8
  · rw [if_pos hj, if_pos hj]
    exact congrArg some (by omega)
  · rw [if_neg hj, if_neg hj]
theorem zm_c4 (i : Nat) (a : zm_A) : zm_c i a 4 = .inl (4, 8, .inr (.inr (.inr (.inr (fun j => if j < 8 then some (i + 4 + 1 + j) else none))))) := by
  rw [← zm_bk0]; rfl
theorem zm_c13 (i : Nat) (a : zm_A) : zm_c i a 13 = .inl (4, 8, .inr (.inr (.inr (.inr (fun j => if j < 8 then some (i + 13 + 1 + j) else none))))) := by
  rw [← zm_bk0]; rfl
theorem zm_c22 (i : Nat) (a : zm_A) : zm_c i a 22 = .inl (4, 8, .inr (.inr (.inr (.inr (fun j => if j < 8 then some (i + 22 + 1 + j) else none))))) := by
  rw [← zm_bk0]; rfl
theorem zm_split (i : Nat) (a : zm_A) (v : zm_V) : zm_W i (a, v) = zm_o i v :: zm_c i a 1 :: zm_c i a 2 :: zm_c i a 3 :: zm_c i a 4 :: ((List.range' 5 8).map (zm_c i a) ++ (zm_c i a 13 :: ((List.range' 14 8).map (zm_c i a) ++ (zm_c i a 22 :: (List.range' 23 12).map (zm_c i a))))) := rfl
abbrev zm_0 : zm_D := (fun _ _ => 0, (0, 8, 99, 0, 0, 0, 0, -1, 0))
theorem zm_W0 (v : zm_V) : zm_W 0 (fun _ _ => 0, v) = zm_o 0 v :: .inl (0, 13, .inl (fun _ => 0)) :: .inl (0, 13, .inl (fun _ => 0)) :: .inl (0, 13, .inl (fun _ => 0)) :: (zm_ma 4 ++ (zm_ma 13 ++ (zm_ma 22 ++ [.inl (0, 8, .inl (fun _ => 0)), .inl (0, 8, .inl (fun _ => 0)), .inl (1, 8, .inl (fun _ => 0)), .inl (0, 13, .inl (fun _ => 0))]))) := by
  rw [zm_split, zm_c4, zm_c13, zm_c22]
  rfl
theorem zm_wf {n i : Nat} (d : zm_D) (h : i + 35 ≤ n) : zw_wf n (zm_W i d) := by
  intro e he
  rcases List.mem_cons.mp he with rfl | he
  · refine zw_we_b ?_
    refine List.all_eq_true.mpr (fun v hv => ?_)
    simp only [List.mem_cons, List.not_mem_nil, or_false] at hv
    rcases hv with rfl | rfl | rfl | rfl | rfl | rfl | rfl | rfl | rfl | rfl | rfl | rfl | rfl | rfl | rfl | rfl | rfl | rfl | rfl <;> first | rfl | (show decide (_ < n) = true; refine decide_eq_true ?_; omega)
  · obtain ⟨k, hk, rfl⟩ := List.mem_map.mp he
    have hk2 := (List.mem_range'_1.mp hk).2
    unfold zm_c
    split
    · rename_i h4
      intro j k9 hk9
      unfold zm_bk at hk9
      split at hk9
      · cases hk9; omega
      · cases hk9
    · split
      · exact trivial
      · split
        · exact trivial
        · exact trivial
set_option maxHeartbeats 4000000 in
theorem zm_init {l : Launch} (hl : l.stackTraces = false) (D : va_G) (dA : Nat → ClassId) : zw_Sc l D dA yX5_init wsX5_init 1 34 412 [.ref 0] [.inr (5, [.null, .null, .null, .int 0, .int 0, .int 0, .null, .null, .null, .null, .null, .null, .int 0, .int 0, .null, .int 0, .int 0, .int 0, .int 0])] (fun v w => v = none ∧ w = zm_W 0 zm_0) := by
  refine zw_startC hl (by decide) rfl rfl (Nat.le_of_ble_eq_true rfl) ?_
  intro pr e s m args below meth c ad A tb hA B
  refine zs_aload_n B dX5_init_0 (i := 0) rfl rfl ?_
  refine zs_objInit B (by decide +kernel) (by decide +kernel) (by decide +kernel) ⟨(by exact Nat.le_of_ble_eq_true rfl), (by exact Nat.le_of_ble_eq_true rfl)⟩ (by exact Nat.le_of_ble_eq_true rfl) dX5_init_1 ?_
  refine zs_aload_n B dX5_init_4 (i := 0) rfl rfl ?_
  refine zs_bipush (v := 13) B dX5_init_5 (by decide) ?_
  refine zs_newa (atype := .int) (ty := .int) (t := 0) (N := 13) (a0 := (13, .inl (fun _ => 0))) B rfl rfl (by decide +kernel) (fun _ => rfl) (fun _ => rfl) (by decide) (by decide) (by decide) (zw_wf_b rfl) (by exact Nat.le_of_ble_eq_true rfl) rfl rfl ⟨(by exact Nat.le_of_ble_eq_true rfl), (by exact Nat.le_of_ble_eq_true rfl)⟩ dX5_init_7 ?_
  refine zs_putF B (wX5_init_9 rfl rfl) rfl (w9_X5) rfl (Nat.le_of_ble_eq_true rfl) dX5_init_9 ?_
  refine zs_aload_n B dX5_init_12 (i := 0) rfl rfl ?_
  refine zs_bipush (v := 13) B dX5_init_13 (by decide) ?_
  refine zs_newa (atype := .int) (ty := .int) (t := 0) (N := 13) (a0 := (13, .inl (fun _ => 0))) B rfl rfl (by decide +kernel) (fun _ => rfl) (fun _ => rfl) (by decide) (by decide) (by decide) (zw_wf_b rfl) (by exact Nat.le_of_ble_eq_true rfl) rfl rfl ⟨(by exact Nat.le_of_ble_eq_true rfl), (by exact Nat.le_of_ble_eq_true rfl)⟩ dX5_init_15 ?_
  refine zs_putF B (wX5_init_13 rfl rfl) rfl (w9_X5) rfl (Nat.le_of_ble_eq_true rfl) dX5_init_17 ?_
  refine zs_aload_n B dX5_init_20 (i := 0) rfl rfl ?_
  refine zs_bipush (v := 13) B dX5_init_21 (by decide) ?_
  refine zs_newa (atype := .int) (ty := .int) (t := 0) (N := 13) (a0 := (13, .inl (fun _ => 0))) B rfl rfl (by decide +kernel) (fun _ => rfl) (fun _ => rfl) (by decide) (by decide) (by decide) (zw_wf_b rfl) (by exact Nat.le_of_ble_eq_true rfl) rfl rfl ⟨(by exact Nat.le_of_ble_eq_true rfl), (by exact Nat.le_of_ble_eq_true rfl)⟩ dX5_init_23 ?_
  refine zs_putF B (wX5_init_16 rfl rfl) rfl (w9_X5) rfl (Nat.le_of_ble_eq_true rfl) dX5_init_25 ?_
  refine zs_aload_n B dX5_init_28 (i := 0) rfl rfl ?_
  refine zs_bipush (v := 8) B dX5_init_29 (by decide) ?_
  refine zs_put B (wX5_init_19 rfl rfl) rfl (Nat.le_of_ble_eq_true rfl) dX5_init_31 ?_
  refine zs_aload_n B dX5_init_34 (i := 0) rfl rfl ?_
  refine zs_bipush (v := 99) B dX5_init_35 (by decide) ?_
  refine zs_put B (wX5_init_23 rfl rfl) rfl (Nat.le_of_ble_eq_true rfl) dX5_init_37 ?_
  refine zs_eq (wl' := [.inr (5, [.ref 1, .ref 2, .ref 3, .int 0, .int 8, .int 99, .null, .null, .null, .null, .null, .null, .int 0, .int 0, .null, .int 0, .int 0, .int 0, .int 0]), .inl (0, 13, .inl (fun _ => 0)), .inl (0, 13, .inl (fun _ => 0)), .inl (0, 13, .inl (fun _ => 0))]) (st' := []) rfl rfl rfl rfl ?_
  refine zs_aload_n B dX5_init_40 (i := 0) rfl rfl ?_
  refine zs_bipush (v := 8) B dX5_init_41 (by decide) ?_
  refine zs_bipush (v := 13) B dX5_init_43 (by decide) ?_
  refine zs_mna (N := 8) (K := 13) B (by decide +kernel) (by decide +kernel) (by decide) (by decide) (by decide) (by decide) (by decide) (by decide) (zw_wf_b rfl) (by exact Nat.le_of_ble_eq_true rfl) rfl rfl ⟨(by exact Nat.le_of_ble_eq_true rfl), (by exact Nat.le_of_ble_eq_true rfl)⟩ dX5_init_45 ?_
  refine zs_putF B (wX5_init_29 rfl rfl) rfl (w9_X5) rfl (Nat.le_of_ble_eq_true rfl) dX5_init_49 ?_
  refine zs_eq (wl' := [.inr (5, [.ref 1, .ref 2, .ref 3, .int 0, .int 8, .int 99, .ref 4, .null, .null, .null, .null, .null, .int 0, .int 0, .null, .int 0, .int 0, .int 0, .int 0]), .inl (0, 13, .inl (fun _ => 0)), .inl (0, 13, .inl (fun _ => 0)), .inl (0, 13, .inl (fun _ => 0))] ++ zm_ma 4) (st' := []) rfl rfl rfl rfl ?_
  refine zs_aload_n B dX5_init_52 (i := 0) rfl rfl ?_
  refine zs_bipush (v := 8) B dX5_init_53 (by decide) ?_
  refine zs_bipush (v := 13) B dX5_init_55 (by decide) ?_
  refine zs_mna (N := 8) (K := 13) B (by decide +kernel) (by decide +kernel) (by decide) (by decide) (by decide) (by decide) (by decide) (by decide) (zw_wf_app (zw_wf_b rfl) (zm_ma_wf (by exact Nat.le_of_ble_eq_true rfl))) (by exact Nat.le_of_ble_eq_true rfl) rfl rfl ⟨(by exact Nat.le_of_ble_eq_true rfl), (by exact Nat.le_of_ble_eq_true rfl)⟩ dX5_init_57 ?_
  refine zs_putF B (wX5_init_32 rfl rfl) rfl (w9_X5) rfl (Nat.le_of_ble_eq_true rfl) dX5_init_61 ?_
  refine zs_eq (wl' := [.inr (5, [.ref 1, .ref 2, .ref 3, .int 0, .int 8, .int 99, .ref 4, .ref 13, .null, .null, .null, .null, .int 0, .int 0, .null, .int 0, .int 0, .int 0, .int 0]), .inl (0, 13, .inl (fun _ => 0)), .inl (0, 13, .inl (fun _ => 0)), .inl (0, 13, .inl (fun _ => 0))] ++ (zm_ma 4 ++ zm_ma 13)) (st' := []) rfl rfl rfl rfl ?_
  refine zs_aload_n B dX5_init_64 (i := 0) rfl rfl ?_
  refine zs_bipush (v := 8) B dX5_init_65 (by decide) ?_
  refine zs_bipush (v := 13) B dX5_init_67 (by decide) ?_
  refine zs_mna (N := 8) (K := 13) B (by decide +kernel) (by decide +kernel) (by decide) (by decide) (by decide) (by decide) (by decide) (by decide) (zw_wf_app (zw_wf_b rfl) (zw_wf_app (zm_ma_wf (by exact Nat.le_of_ble_eq_true rfl)) (zm_ma_wf (by exact Nat.le_of_ble_eq_true rfl)))) (by exact Nat.le_of_ble_eq_true rfl) rfl rfl ⟨(by exact Nat.le_of_ble_eq_true rfl), (by exact Nat.le_of_ble_eq_true rfl)⟩ dX5_init_69 ?_
  refine zs_putF B (wX5_init_35 rfl rfl) rfl (w9_X5) rfl (Nat.le_of_ble_eq_true rfl) dX5_init_73 ?_
  refine zs_eq (wl' := [.inr (5, [.ref 1, .ref 2, .ref 3, .int 0, .int 8, .int 99, .ref 4, .ref 13, .ref 22, .null, .null, .null, .int 0, .int 0, .null, .int 0, .int 0, .int 0, .int 0]), .inl (0, 13, .inl (fun _ => 0)), .inl (0, 13, .inl (fun _ => 0)), .inl (0, 13, .inl (fun _ => 0))] ++ (zm_ma 4 ++ (zm_ma 13 ++ zm_ma 22))) (st' := []) rfl rfl rfl rfl ?_
  refine zs_aload_n B dX5_init_76 (i := 0) rfl rfl ?_
  refine zs_bipush (v := 8) B dX5_init_77 (by decide) ?_
  refine zs_newa (atype := .int) (ty := .int) (t := 0) (N := 8) (a0 := (8, .inl (fun _ => 0))) B rfl rfl (by decide +kernel) (fun _ => rfl) (fun _ => rfl) (by decide) (by decide) (by decide) (zw_wf_app (zw_wf_b rfl) (zw_wf_app (zm_ma_wf (by exact Nat.le_of_ble_eq_true rfl)) (zw_wf_app (zm_ma_wf (by exact Nat.le_of_ble_eq_true rfl)) (zm_ma_wf (by exact Nat.le_of_ble_eq_true rfl))))) (by exact Nat.le_of_ble_eq_true rfl) rfl rfl ⟨(by exact Nat.le_of_ble_eq_true rfl), (by exact Nat.le_of_ble_eq_true rfl)⟩ dX5_init_79 ?_
  refine zs_putF B (wX5_init_38 rfl rfl) rfl (w9_X5) rfl (Nat.le_of_ble_eq_true rfl) dX5_init_81 ?_
  refine zs_eq (wl' := [.inr (5, [.ref 1, .ref 2, .ref 3, .int 0, .int 8, .int 99, .ref 4, .ref 13, .ref 22, .ref 31, .null, .null, .int 0, .int 0, .null, .int 0, .int 0, .int 0, .int 0]), .inl (0, 13, .inl (fun _ => 0)), .inl (0, 13, .inl (fun _ => 0)), .inl (0, 13, .inl (fun _ => 0))] ++ (zm_ma 4 ++ (zm_ma 13 ++ (zm_ma 22 ++ [.inl (0, 8, .inl (fun _ => 0))])))) (st' := []) rfl rfl rfl rfl ?_
  refine zs_aload_n B dX5_init_84 (i := 0) rfl rfl ?_
  refine zs_bipush (v := 8) B dX5_init_85 (by decide) ?_
  refine zs_newa (atype := .int) (ty := .int) (t := 0) (N := 8) (a0 := (8, .inl (fun _ => 0))) B rfl rfl (by decide +kernel) (fun _ => rfl) (fun _ => rfl) (by decide) (by decide) (by decide) (zw_wf_app (zw_wf_b rfl) (zw_wf_app (zm_ma_wf (by exact Nat.le_of_ble_eq_true rfl)) (zw_wf_app (zm_ma_wf (by exact Nat.le_of_ble_eq_true rfl)) (zw_wf_app (zm_ma_wf (by exact Nat.le_of_ble_eq_true rfl)) (zw_wf_b rfl))))) (by exact Nat.le_of_ble_eq_true rfl) rfl rfl ⟨(by exact Nat.le_of_ble_eq_true rfl), (by exact Nat.le_of_ble_eq_true rfl)⟩ dX5_init_87 ?_
  refine zs_putF B (wX5_init_41 rfl rfl) rfl (w9_X5) rfl (Nat.le_of_ble_eq_true rfl) dX5_init_89 ?_
  refine zs_eq (wl' := [.inr (5, [.ref 1, .ref 2, .ref 3, .int 0, .int 8, .int 99, .ref 4, .ref 13, .ref 22, .ref 31, .ref 32, .null, .int 0, .int 0, .null, .int 0, .int 0, .int 0, .int 0]), .inl (0, 13, .inl (fun _ => 0)), .inl (0, 13, .inl (fun _ => 0)), .inl (0, 13, .inl (fun _ => 0))] ++ (zm_ma 4 ++ (zm_ma 13 ++ (zm_ma 22 ++ [.inl (0, 8, .inl (fun _ => 0)), .inl (0, 8, .inl (fun _ => 0))])))) (st' := []) rfl rfl rfl rfl ?_
  refine zs_aload_n B dX5_init_92 (i := 0) rfl rfl ?_
  refine zs_bipush (v := 8) B dX5_init_93 (by decide) ?_
  refine zs_newa (atype := .char) (ty := .char) (t := 1) (N := 8) (a0 := (8, .inl (fun _ => 0))) B rfl rfl (by decide +kernel) (fun _ => rfl) (fun _ => rfl) (by decide) (by decide) (by decide) (zw_wf_app (zw_wf_b rfl) (zw_wf_app (zm_ma_wf (by exact Nat.le_of_ble_eq_true rfl)) (zw_wf_app (zm_ma_wf (by exact Nat.le_of_ble_eq_true rfl)) (zw_wf_app (zm_ma_wf (by exact Nat.le_of_ble_eq_true rfl)) (zw_wf_b rfl))))) (by exact Nat.le_of_ble_eq_true rfl) rfl rfl ⟨(by exact Nat.le_of_ble_eq_true rfl), (by exact Nat.le_of_ble_eq_true rfl)⟩ dX5_init_95 ?_
  refine zs_putF B (wX5_init_44 rfl rfl) rfl (w9_X5) rfl (Nat.le_of_ble_eq_true rfl) dX5_init_97 ?_
  refine zs_eq (wl' := [.inr (5, [.ref 1, .ref 2, .ref 3, .int 0, .int 8, .int 99, .ref 4, .ref 13, .ref 22, .ref 31, .ref 32, .ref 33, .int 0, .int 0, .null, .int 0, .int 0, .int 0, .int 0]), .inl (0, 13, .inl (fun _ => 0)), .inl (0, 13, .inl (fun _ => 0)), .inl (0, 13, .inl (fun _ => 0))] ++ (zm_ma 4 ++ (zm_ma 13 ++ (zm_ma 22 ++ [.inl (0, 8, .inl (fun _ => 0)), .inl (0, 8, .inl (fun _ => 0)), .inl (1, 8, .inl (fun _ => 0))])))) (st' := []) rfl rfl rfl rfl ?_
  refine zs_aload_n B dX5_init_100 (i := 0) rfl rfl ?_
  refine zs_bipush (v := 13) B dX5_init_101 (by decide) ?_
  refine zs_newa (atype := .int) (ty := .int) (t := 0) (N := 13) (a0 := (13, .inl (fun _ => 0))) B rfl rfl (by decide +kernel) (fun _ => rfl) (fun _ => rfl) (by decide) (by decide) (by decide) (zw_wf_app (zw_wf_b rfl) (zw_wf_app (zm_ma_wf (by exact Nat.le_of_ble_eq_true rfl)) (zw_wf_app (zm_ma_wf (by exact Nat.le_of_ble_eq_true rfl)) (zw_wf_app (zm_ma_wf (by exact Nat.le_of_ble_eq_true rfl)) (zw_wf_b rfl))))) (by exact Nat.le_of_ble_eq_true rfl) rfl rfl ⟨(by exact Nat.le_of_ble_eq_true rfl), (by exact Nat.le_of_ble_eq_true rfl)⟩ dX5_init_103 ?_
  refine zs_putF B (wX5_init_48 rfl rfl) rfl (w9_X5) rfl (Nat.le_of_ble_eq_true rfl) dX5_init_105 ?_
  refine zs_eq (wl' := [.inr (5, [.ref 1, .ref 2, .ref 3, .int 0, .int 8, .int 99, .ref 4, .ref 13, .ref 22, .ref 31, .ref 32, .ref 33, .int 0, .int 0, .ref 34, .int 0, .int 0, .int 0, .int 0]), .inl (0, 13, .inl (fun _ => 0)), .inl (0, 13, .inl (fun _ => 0)), .inl (0, 13, .inl (fun _ => 0))] ++ (zm_ma 4 ++ (zm_ma 13 ++ (zm_ma 22 ++ [.inl (0, 8, .inl (fun _ => 0)), .inl (0, 8, .inl (fun _ => 0)), .inl (1, 8, .inl (fun _ => 0)), .inl (0, 13, .inl (fun _ => 0))])))) (st' := []) rfl rfl rfl rfl ?_
  refine zs_aload_n B dX5_init_108 (i := 0) rfl rfl ?_
  refine zs_iconst (v := (-1)) B dX5_init_109 (by decide) ?_
  refine zs_put B (wX5_init_51 rfl rfl) rfl (Nat.le_of_ble_eq_true rfl) dX5_init_110 ?_
  exact zs_vretC hA B rfl (by decide) (by decide) ⟨rfl, by rw [zm_W0]; rfl⟩ dX5_init_113
abbrev zm_is : List Nat := List.range' 70 35
theorem zm_ix {k : Nat} (h : k < 35) : zw_ix zm_is k = 70 + k := by
  show (List.range' 70 35).getD k 0 = 70 + k
  rw [List.getD_eq_getElem?_getD, List.getElem?_range' h]
  simp
theorem zm_rn (d : zm_D) : (zm_W 0 d).map (zw_rE zm_is) = zm_W 70 d := by
  obtain ⟨a, v⟩ := d
  show zw_rE zm_is (zm_o 0 v) :: ((List.range' 1 34).map (zm_c 0 a)).map (zw_rE zm_is) = zm_o 70 v :: (List.range' 1 34).map (zm_c 70 a)
  rw [List.map_map]
  refine congr (congrArg List.cons rfl) (List.map_congr_left (fun k hk => ?_))
  show zw_rE zm_is (zm_c 0 a k) = zm_c 70 a k
  unfold zm_c
  split
  · rename_i h4
    show (.inl (4, 8, .inr (.inr (.inr (.inr (fun j => (zm_bk 0 k j).map (zw_ix zm_is)))))) : zw_E) = _
    have : (fun j => (zm_bk 0 k j).map (zw_ix zm_is)) = zm_bk 70 k := by
      funext j
      unfold zm_bk
      split
      · show some (zw_ix zm_is (0 + (k + 1 + j))) = some _
        rw [zm_ix (by omega)]
        exact congrArg some (by omega)
      · rfl
    rw [this]
  · split
    · rfl
    · split <;> rfl
