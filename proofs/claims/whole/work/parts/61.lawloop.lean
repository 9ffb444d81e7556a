/-! the law: its loop, its start, the claim -/
theorem zL_26 {n : Nat} (h : n < 26) : n = 0 ∨ n = 1 ∨ n = 2 ∨ n = 3 ∨ n = 4 ∨ n = 5 ∨ n = 6 ∨ n = 7 ∨ n = 8 ∨ n = 9 ∨ n = 10 ∨ n = 11 ∨ n = 12 ∨ n = 13 ∨ n = 14 ∨ n = 15 ∨ n = 16 ∨ n = 17 ∨ n = 18 ∨ n = 19 ∨ n = 20 ∨ n = 21 ∨ n = 22 ∨ n = 23 ∨ n = 24 ∨ n = 25 := by omega
theorem zL_room {n9 j : Nat} (h9 : n9 ≤ 2048) (hj : 4 * j ≤ n9) (h : ¬ nI n9 - 4 < nI (4 * j)) : 4 * j + 4 ≤ n9 := by
  by_cases h4 : 4 ≤ n9
  · obtain ⟨k, rfl⟩ : ∃ k, n9 = k + 4 := ⟨n9 - 4, by omega⟩
    have e : nI (k + 4) - 4 = nI k := by
      rw [← nI_add k 4]
      exact Int32.add_sub_cancel _ _
    rw [e, nI_ltI (by omega) (by omega)] at h
    omega
  · exfalso
    have hj0 : j = 0 := by omega
    subst hj0
    apply h
    rcases (show n9 = 0 ∨ n9 = 1 ∨ n9 = 2 ∨ n9 = 3 by omega) with rfl | rfl | rfl | rfl <;> decide +kernel
set_option maxHeartbeats 8000000 in
theorem zL_loop {p : Program} {l : Launch} {e : Env} {s : State} {m : MethodId} {args : Array Value} {below : List Frame} {meth : Method} {c : Code} {Q : State → Prop} {ret : Option FieldType} {nm : String} {tb : List ExceptionTableEntry} {D : va_G} {dA : Nat → ClassId} {A : Nat → Prop} {ad0 : Nat → Nat} {cells slots : Nat} (hl : l.stackTraces = false) (B : zw_B p l s m args meth c cL_law 7 ret RL nm wsL_law tb D dA A) {n9 : Nat} {xs : Nat → Int32} (hX : zL_X s A ad0 n9 xs)
    (hend : ∀ (k n : Nat) (x : zb_D) (d : zm_D) (f : Nat → Int64) (o5 o6 : Option Value) (v : Int32), k ≤ 644659 → n ≤ 7162127 → zw_k p l e room_1 s m args below meth c Q D dA A ad0 0 7 k n (zL_W x d f) 1409 [some (.ref 1000), some (.ref 0), some (.ref 70), some (.ref 105), some (.int v), o5, o6] []) :
    ∀ (k j : Nat), k + j = 513 → 4 * j ≤ n9 → ∀ (x : zb_D) (d : zm_D) (f : Nat → Int64) (T : zb_T) (U : zm_U) (t : Int32) (o5 o6 : Option Value), zL_C T U → zb_R T x → zm_R U t d →
      zw_k p l e room_1 s m args below meth c Q D dA A ad0 0 7 (106 + 2 * j) (1000 + 12 * j) (zL_W x d f) 23 [some (.ref 1000), some (.ref 0), some (.ref 70), some (.ref 105), some (.int (nI (4 * j))), o5, o6] [] := by
  intro k
  have h9 : n9 ≤ 2048 := hX.2.2.2
  induction k with
  | zero =>
    intro j hjk hj
    exfalso
    omega
  | succ k ih =>
    intro j hjk hj x d f T U t o5 o6 hC hR hM
    have kk : zL_K p l e s m args below meth c Q D dA A ad0 (106 + 2 * j) (1000 + 12 * j) j → zw_k p l e room_1 s m args below meth c Q D dA A ad0 0 7 (106 + 2 * j) (1000 + 12 * j) (zL_W x d f) 23 [some (.ref 1000), some (.ref 0), some (.ref 70), some (.ref 105), some (.int (nI (4 * j))), o5, o6] [] := by
      intro kk
      refine zs_iload B dL_law_23 (i := 4) rfl ?_
      refine zs_aload_n B dL_law_25 (i := 0) rfl rfl ?_
      refine zs_sln B hX dL_law_26 ?_
      refine zs_iconst (v := 4) B dL_law_27 (by decide) ?_
      refine zs_isub B dL_law_28 ?_
      refine zs_icmp_gt (tgt := 1409) B dL_law_29 (by decide) (fun h => hend _ _ _ _ _ _ _ _ (by omega) (by omega)) (fun h => ?_)
      have hj4 := zL_room h9 hj h
      have hc : 106 + 2 * j + 2 ≤ room_1.cells ∧ 1000 + 12 * j + 12 ≤ room_1.slots := ⟨by show 106 + 2 * j + 2 ≤ 644659; omega, by show 1000 + 12 * j + 12 ≤ 7162127; omega⟩
      refine zs_aload_n B dL_law_32 (i := 0) rfl rfl ?_
      refine zs_iload B dL_law_33 (i := 4) rfl ?_
      refine zs_sal B hX (j := 4 * j) rfl (by omega) dL_law_35 ?_
      refine zs_bipush (v := 31) B dL_law_36 (by decide) ?_
      refine zs_iand B dL_law_38 ?_
      generalize xs (4 * j) &&& 31 = y
      by_cases hin : y.toInt < 0 ∨ 25 < y.toInt
      · refine zs_tableOut (tgt := 1403) B dL_law_39 hin (by decide) ?_
        refine zs_widen (k := 106 + 2 * j + 2) (n := 1000 + 12 * j + 12) (by omega) (by omega) ?_
        exact kk _ _ _ _ _ _ _ _ hC hR hM
      · obtain ⟨n, hn, rfl⟩ := vp_in_of (vp_in_iff.mpr ⟨by omega, by omega⟩ : vp_in y 26) (by decide)
        clear hin
        rcases zL_26 hn with rfl | rfl | rfl | rfl | rfl | rfl | rfl | rfl | rfl | rfl | rfl | rfl | rfl | rfl | rfl | rfl | rfl | rfl | rfl | rfl | rfl | rfl | rfl | rfl | rfl | rfl
        · exact zs_tableIn (off := 117) (tgt := 156) B dL_law_39 (by decide +kernel) (by decide +kernel) (by decide +kernel) (by decide) (zL_c_put hl B hX hR hM hC j hj4 hc kk)
        · exact zs_tableIn (off := 185) (tgt := 224) B dL_law_39 (by decide +kernel) (by decide +kernel) (by decide +kernel) (by decide) (zL_c_putIfAbsent hl B hX hR hM hC j hj4 hc kk)
        · exact zs_tableIn (off := 260) (tgt := 299) B dL_law_39 (by decide +kernel) (by decide +kernel) (by decide +kernel) (by decide) (zL_c_get hl B hX hR hM hC j hj4 hc kk)
        · exact zs_tableIn (off := 316) (tgt := 355) B dL_law_39 (by decide +kernel) (by decide +kernel) (by decide +kernel) (by decide) (zL_c_getOr hl B hX hR hM hC j hj4 hc kk)
        · exact zs_tableIn (off := 353) (tgt := 392) B dL_law_39 (by decide +kernel) (by decide +kernel) (by decide +kernel) (by decide) (zL_c_replace hl B hX hR hM hC j hj4 hc kk)
        · exact zs_tableIn (off := 390) (tgt := 429) B dL_law_39 (by decide +kernel) (by decide +kernel) (by decide +kernel) (by decide) (zL_c_replaceIf hl B hX hR hM hC j hj4 hc kk)
        · exact zs_tableIn (off := 439) (tgt := 478) B dL_law_39 (by decide +kernel) (by decide +kernel) (by decide +kernel) (by decide) (zL_c_look hl B hX hR hM hC j hj4 hc kk)
        · exact zs_tableIn (off := 495) (tgt := 534) B dL_law_39 (by decide +kernel) (by decide +kernel) (by decide +kernel) (by decide) (zL_c_has hl B hX hR hM hC j hj4 hc kk)
        · exact zs_tableIn (off := 520) (tgt := 559) B dL_law_39 (by decide +kernel) (by decide +kernel) (by decide +kernel) (by decide) (zL_c_remove hl B hX hR hM hC j hj4 hc kk)
        · exact zs_tableIn (off := 576) (tgt := 615) B dL_law_39 (by decide +kernel) (by decide +kernel) (by decide +kernel) (by decide) (zL_c_size hl B hX hR hM hC j hj4 hc kk)
        · exact zs_tableIn (off := 589) (tgt := 628) B dL_law_39 (by decide +kernel) (by decide +kernel) (by decide +kernel) (by decide) (zL_c_limit hl B hX hR hM hC j hj4 hc kk)
        · exact zs_tableIn (off := 645) (tgt := 684) B dL_law_39 (by decide +kernel) (by decide +kernel) (by decide +kernel) (by decide) (zL_c_way hl B hX hR hM hC j hj4 hc kk)
        · exact zs_tableIn (off := 703) (tgt := 742) B dL_law_39 (by decide +kernel) (by decide +kernel) (by decide +kernel) (by decide) (zL_c_keyAt hl B hX hR hM hC j hj4 hc kk)
        · exact zs_tableIn (off := 773) (tgt := 812) B dL_law_39 (by decide +kernel) (by decide +kernel) (by decide +kernel) (by decide) (zL_c_placeOf hl B hX hR hM hC j hj4 hc kk)
        · exact zs_tableIn (off := 843) (tgt := 882) B dL_law_39 (by decide +kernel) (by decide +kernel) (by decide +kernel) (by decide) (zL_c_setAt hl B hX hR hM hC j hj4 hc kk)
        · exact zs_tableIn (off := 925) (tgt := 964) B dL_law_39 (by decide +kernel) (by decide +kernel) (by decide +kernel) (by decide) (zL_c_removeAt hl B hX hR hM hC j hj4 hc kk)
        · exact zs_tableIn (off := 995) (tgt := 1034) B dL_law_39 (by decide +kernel) (by decide +kernel) (by decide +kernel) (by decide) (zL_c_thin hl B hX hR hM hC j hj4 hc kk)
        · exact zs_tableIn (off := 1065) (tgt := 1104) B dL_law_39 (by decide +kernel) (by decide +kernel) (by decide +kernel) (by decide) (zL_c_walk hl B hX hR hM hC j hj4 hc kk)
        · exact zs_tableIn (off := 1123) (tgt := 1162) B dL_law_39 (by decide +kernel) (by decide +kernel) (by decide +kernel) (by decide) (zL_c_step hl B hX hR hM hC j hj4 hc kk)
        · exact zs_tableIn (off := 1167) (tgt := 1206) B dL_law_39 (by decide +kernel) (by decide +kernel) (by decide +kernel) (by decide) (zL_c_cut hl B hX hR hM hC j hj4 hc kk)
        · exact zs_tableIn (off := 1211) (tgt := 1250) B dL_law_39 (by decide +kernel) (by decide +kernel) (by decide +kernel) (by decide) (zL_c_moves hl B hX hR hM hC j hj4 hc kk)
        · exact zs_tableIn (off := 1224) (tgt := 1263) B dL_law_39 (by decide +kernel) (by decide +kernel) (by decide +kernel) (by decide) (zL_c_move hl B hX hR hM hC j hj4 hc kk)
        · exact zs_tableIn (off := 1280) (tgt := 1319) B dL_law_39 (by decide +kernel) (by decide +kernel) (by decide +kernel) (by decide) (zL_c_crossings hl B hX hR hM hC j hj4 hc kk)
        · exact zs_tableIn (off := 1293) (tgt := 1332) B dL_law_39 (by decide +kernel) (by decide +kernel) (by decide +kernel) (by decide) (zL_c_undo hl B hX hR hM hC j hj4 hc kk)
        · exact zs_tableIn (off := 1337) (tgt := 1376) B dL_law_39 (by decide +kernel) (by decide +kernel) (by decide +kernel) (by decide) (zL_c_isTrue hl B hX hR hM hC j hj4 hc kk)
        · exact zs_tableIn (off := 1350) (tgt := 1389) B dL_law_39 (by decide +kernel) (by decide +kernel) (by decide +kernel) (by decide) (zL_c_checksum hl B hX hR hM hC j hj4 hc kk)
    by_cases hj4 : 4 * j + 4 ≤ n9
    · refine kk (fun x' d' f' T' U' t' o5' o6' hC' hR' hM' => ?_)
      refine zs_iinc B dL_law_1403 (i := 4) rfl (nI_add (4 * j) 4) (by decide) rfl ?_
      refine zs_goto (tgt := 23) B dL_law_1406 (by decide) ?_
      exact ih (j + 1) (by omega) (by omega) x' d' f' T' U' t' o5' o6' hC' hR' hM'
    · refine zs_iload B dL_law_23 (i := 4) rfl ?_
      refine zs_aload_n B dL_law_25 (i := 0) rfl rfl ?_
      refine zs_sln B hX dL_law_26 ?_
      refine zs_iconst (v := 4) B dL_law_27 (by decide) ?_
      refine zs_isub B dL_law_28 ?_
      refine zs_icmp_gt (tgt := 1409) B dL_law_29 (by decide) (fun h => hend _ _ _ _ _ _ _ _ (by omega) (by omega)) (fun h => absurd (zL_room h9 hj h) hj4)
theorem zL_R0 : zb_R (([], [], 8, 99), [], (0, 99, 0, 0)) zb_0 := by
  refine ⟨⟨⟨rfl, by decide, fun i q h => by cases h⟩, ⟨rfl, by decide, fun i q h => by cases h⟩, rfl⟩, ⟨rfl, rfl⟩, ⟨by decide, rfl, by decide, fun j S h => by cases h⟩, rfl, rfl, rfl, rfl⟩
theorem zL_M0 : zm_R (([], [], 8, 99), [], (0, [], -1)) 0 zm_0 := by
  refine ⟨⟨rfl, (fun i q h => by cases h), (fun i q h => by cases h), (fun i q h => by cases h), rfl, rfl⟩, ⟨0, rfl, rfl, by decide, fun j S h => by cases h⟩, ⟨rfl, rfl, Or.inl rfl, 0, 0, rfl, rfl, rfl, by decide, fun i x h => by cases h⟩, rfl⟩
