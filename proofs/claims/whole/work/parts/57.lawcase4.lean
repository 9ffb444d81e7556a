/-! the law: more of its cases -/
set_option maxHeartbeats 8000000 in
theorem zL_c_placeOf {p : Program} {l : Launch} {e : Env} {s : State} {m : MethodId} {args : Array Value} {below : List Frame} {meth : Method} {c : Code} {Q : State → Prop} {ret : Option FieldType} {nm : String} {tb : List ExceptionTableEntry} {D : va_G} {dA : Nat → ClassId} {A : Nat → Prop} {ad0 : Nat → Nat} {cells slots : Nat} (hl : l.stackTraces = false) (B : zw_B p l s m args meth c cL_law 7 ret RL nm wsL_law tb D dA A) {n9 : Nat} {xs : Nat → Int32} (hX : zL_X s A ad0 n9 xs) {x : zb_D} {T : zb_T} {d : zm_D} {U : zm_U} {t : Int32} {f : Nat → Int64} (hR : zb_R T x) (hM : zm_R U t d) (hC : zL_C T U) (j : Nat) (hj : 4 * j + 4 ≤ n9) {o5 o6 : Option Value} (hc : cells + 2 ≤ room_1.cells ∧ slots + 12 ≤ room_1.slots)
    (kk : zL_K p l e s m args below meth c Q D dA A ad0 cells slots j) : zw_k p l e room_1 s m args below meth c Q D dA A ad0 0 7 cells slots (zL_W x d f) 812 [some (.ref 1000), some (.ref 0), some (.ref 70), some (.ref 105), some (.int (nI (4 * j))), o5, o6] [] := by
  obtain ⟨k, a, E, T', U', hk, hT, hC', hb, hm⟩ := zX_placeOf hl D dA hR hM hC ((xs (4 * j + 1)).toUInt32 % 65536).toInt32 (xs (4 * j + 2))
  refine zs_aload_n B dL_law_812 (i := 1) rfl rfl ?_
  refine zs_aload_n B dL_law_813 (i := 0) rfl rfl ?_
  refine zs_iload B dL_law_814 (i := 4) rfl ?_
  refine zs_iconst (v := 1) B dL_law_816 (by decide) ?_
  refine zs_iadd B dL_law_817 ?_
  refine zs_sal B hX (j := 4 * j + 1) (nI_add (4 * j) 1) (by omega) dL_law_818 ?_
  refine zs_i2c B dL_law_819 ?_
  refine zs_aload_n B dL_law_820 (i := 0) rfl rfl ?_
  refine zs_iload B dL_law_821 (i := 4) rfl ?_
  refine zs_iconst (v := 2) B dL_law_823 (by decide) ?_
  refine zs_iadd B dL_law_824 ?_
  refine zs_sal B hX (j := 4 * j + 2) (nI_add (4 * j) 2) (by omega) dL_law_825 ?_
  refine zs_aload_n B dL_law_826 (i := 3) rfl rfl ?_
  refine zs_callSW (n := 4) (wlc := zb_W x ++ [zL_o f]) (as := [.ref 0, .int ((xs (4 * j + 1)).toUInt32 % 65536).toInt32, .int (xs (4 * j + 2)), .ref 70]) (rest := []) zL_isB B (hL_placeOf hl D dA hR ((xs (4 * j + 1)).toUInt32 % 65536).toInt32 (xs (4 * j + 2)) f k a E T' hk hT hb) gL_law_L_placeOf rfl ⟨by decide, by decide, by decide +kernel⟩ rfl (zL_selB x d f) zL_ndB rfl ⟨(by exact Nat.le_of_ble_eq_true rfl), (by exact Nat.le_of_ble_eq_true rfl)⟩ (by exact Nat.le_of_ble_eq_true rfl) ⟨by omega, by omega⟩ dL_law_827 zH_len (fun _ _ h => h.elim) (fun _ _ h => h.elim) ?_
  rintro r w ⟨x', f', rfl, rfl, hR', hf'⟩
  refine zs_eq (wl' := zL_W x' d f') (st' := [.int k]) (zL_bkB x x' d f f') rfl rfl rfl ?_
  refine zs_istore B dL_law_830 (i := 5) (by decide) rfl ?_
  refine zs_aload_n B dL_law_832 (i := 2) rfl rfl ?_
  refine zs_aload_n B dL_law_833 (i := 0) rfl rfl ?_
  refine zs_iload B dL_law_834 (i := 4) rfl ?_
  refine zs_iconst (v := 1) B dL_law_836 (by decide) ?_
  refine zs_iadd B dL_law_837 ?_
  refine zs_sal B hX (j := 4 * j + 1) (nI_add (4 * j) 1) (by omega) dL_law_838 ?_
  refine zs_i2c B dL_law_839 ?_
  refine zs_aload_n B dL_law_840 (i := 0) rfl rfl ?_
  refine zs_iload B dL_law_841 (i := 4) rfl ?_
  refine zs_iconst (v := 2) B dL_law_843 (by decide) ?_
  refine zs_iadd B dL_law_844 ?_
  refine zs_sal B hX (j := 4 * j + 2) (nI_add (4 * j) 2) (by omega) dL_law_845 ?_
  refine zs_callV (n := 2) (wlc := zm_W 0 d) (as := [.int ((xs (4 * j + 1)).toUInt32 % 65536).toInt32, .int (xs (4 * j + 2))]) (rest := []) (b := 0) zm_is B hm gL_law_X5_placeOf rfl ⟨rfl, by decide, by decide, by decide +kernel⟩ rfl (zL_selM x' d f') zm_nd rfl rfl rfl ⟨(by exact Nat.le_of_ble_eq_true rfl), (by exact Nat.le_of_ble_eq_true rfl)⟩ (by exact Nat.le_of_ble_eq_true rfl) ⟨by omega, by omega⟩ dL_law_846 zG_len (fun _ _ h => h.elim) (fun _ _ h => h.elim) ?_
  rintro r w ⟨d', v, rfl, rfl, hM', hv⟩
  refine zs_eq (wl' := zL_W x' d' f') (st' := [.int v]) (zL_bkM x' d d' f') rfl rfl rfl ?_
  refine zs_istore B dL_law_849 (i := 6) (by decide) rfl ?_
  refine zs_aload_n B dL_law_851 (i := 2) rfl rfl ?_
  refine zs_callV (n := 0) (wlc := zm_W 0 d') (as := []) (rest := []) (b := 0) zm_is B (zm_thrown hl D dA d' U' k hM') gL_law_X5_thrown rfl ⟨rfl, by decide, by decide, by decide +kernel⟩ rfl (zL_selM x' d' f') zm_nd rfl rfl rfl ⟨(by exact Nat.le_of_ble_eq_true rfl), (by exact Nat.le_of_ble_eq_true rfl)⟩ (by exact Nat.le_of_ble_eq_true rfl) ⟨by omega, by omega⟩ dL_law_852 (by rintro v w ⟨rfl, rfl⟩; rfl) (fun _ _ h => h.elim) (fun _ _ h => h.elim) ?_
  rintro r w ⟨rfl, rfl⟩
  refine zs_eq (wl' := zL_W x' d' f') (st' := [.int k]) (zL_bkM x' d' d' f') rfl rfl rfl ?_
  refine zs_iload B dL_law_855 (i := 5) rfl ?_
  refine zs_icmp_eq (tgt := 862) B dL_law_857 (by decide) (fun _ => ?_) (fun h => absurd rfl h)
  refine zs_iload B dL_law_862 (i := 5) rfl ?_
  refine zs_if_ne (tgt := 879) B dL_law_864 (by decide) (fun _ => ?_) (fun hk0 => ?_)
  · refine zs_goto (tgt := 1403) B dL_law_879 (by decide) ?_
    refine zs_widen (k := cells + 2) (n := slots + 12) (by omega) (by omega) ?_
    exact kk _ _ _ _ _ _ _ _ hC' hR' hM'
  · refine zs_aload_n B dL_law_867 (i := 3) rfl rfl ?_
    refine zs_iconst (v := 0) B dL_law_868 (by decide) ?_
    refine zs_lal (f := f') (n := 1) B 0 (zL_at _ _ _) (by decide) (by decide) nI_0.symm dL_law_869 ?_
    refine zs_iload B dL_law_870 (i := 6) rfl ?_
    refine zs_i2l B dL_law_872 ?_
    refine zs_lcmp B dL_law_873 ?_
    refine zs_if_eq (tgt := 879) B dL_law_874 (by decide) (fun _ => ?_) (fun h => absurd (zL_cmp ((hf' hk0).trans (by rw [hv hk0]))) h)
    refine zs_goto (tgt := 1403) B dL_law_879 (by decide) ?_
    refine zs_widen (k := cells + 2) (n := slots + 12) (by omega) (by omega) ?_
    exact kk _ _ _ _ _ _ _ _ hC' hR' hM'
set_option maxHeartbeats 8000000 in
theorem zL_c_setAt {p : Program} {l : Launch} {e : Env} {s : State} {m : MethodId} {args : Array Value} {below : List Frame} {meth : Method} {c : Code} {Q : State → Prop} {ret : Option FieldType} {nm : String} {tb : List ExceptionTableEntry} {D : va_G} {dA : Nat → ClassId} {A : Nat → Prop} {ad0 : Nat → Nat} {cells slots : Nat} (hl : l.stackTraces = false) (B : zw_B p l s m args meth c cL_law 7 ret RL nm wsL_law tb D dA A) {n9 : Nat} {xs : Nat → Int32} (hX : zL_X s A ad0 n9 xs) {x : zb_D} {T : zb_T} {d : zm_D} {U : zm_U} {t : Int32} {f : Nat → Int64} (hR : zb_R T x) (hM : zm_R U t d) (hC : zL_C T U) (j : Nat) (hj : 4 * j + 4 ≤ n9) {o5 o6 : Option Value} (hc : cells + 2 ≤ room_1.cells ∧ slots + 12 ≤ room_1.slots)
    (kk : zL_K p l e s m args below meth c Q D dA A ad0 cells slots j) : zw_k p l e room_1 s m args below meth c Q D dA A ad0 0 7 cells slots (zL_W x d f) 882 [some (.ref 1000), some (.ref 0), some (.ref 70), some (.ref 105), some (.int (nI (4 * j))), o5, o6] [] := by
  obtain ⟨k, a, E, T', U', hk, hT, hC', hb, hm⟩ := zX_setAt hl D dA hR hM hC ((xs (4 * j + 1)).toUInt32 % 65536).toInt32 (xs (4 * j + 2)) (xs (4 * j + 3))
  refine zs_aload_n B dL_law_882 (i := 1) rfl rfl ?_
  refine zs_aload_n B dL_law_883 (i := 0) rfl rfl ?_
  refine zs_iload B dL_law_884 (i := 4) rfl ?_
  refine zs_iconst (v := 1) B dL_law_886 (by decide) ?_
  refine zs_iadd B dL_law_887 ?_
  refine zs_sal B hX (j := 4 * j + 1) (nI_add (4 * j) 1) (by omega) dL_law_888 ?_
  refine zs_i2c B dL_law_889 ?_
  refine zs_aload_n B dL_law_890 (i := 0) rfl rfl ?_
  refine zs_iload B dL_law_891 (i := 4) rfl ?_
  refine zs_iconst (v := 2) B dL_law_893 (by decide) ?_
  refine zs_iadd B dL_law_894 ?_
  refine zs_sal B hX (j := 4 * j + 2) (nI_add (4 * j) 2) (by omega) dL_law_895 ?_
  refine zs_aload_n B dL_law_896 (i := 0) rfl rfl ?_
  refine zs_iload B dL_law_897 (i := 4) rfl ?_
  refine zs_iconst (v := 3) B dL_law_899 (by decide) ?_
  refine zs_iadd B dL_law_900 ?_
  refine zs_sal B hX (j := 4 * j + 3) (nI_add (4 * j) 3) (by omega) dL_law_901 ?_
  refine zs_aload_n B dL_law_902 (i := 3) rfl rfl ?_
  refine zs_callSW (n := 5) (wlc := zb_W x ++ [zL_o f]) (as := [.ref 0, .int ((xs (4 * j + 1)).toUInt32 % 65536).toInt32, .int (xs (4 * j + 2)), .int (xs (4 * j + 3)), .ref 70]) (rest := []) zL_isB B (hL_setAt hl D dA hR ((xs (4 * j + 1)).toUInt32 % 65536).toInt32 (xs (4 * j + 2)) (xs (4 * j + 3)) f k a E T' hk hT hb) gL_law_L_setAt rfl ⟨by decide, by decide, by decide +kernel⟩ rfl (zL_selB x d f) zL_ndB rfl ⟨(by exact Nat.le_of_ble_eq_true rfl), (by exact Nat.le_of_ble_eq_true rfl)⟩ (by exact Nat.le_of_ble_eq_true rfl) ⟨by omega, by omega⟩ dL_law_903 zH_len (fun _ _ h => h.elim) (fun _ _ h => h.elim) ?_
  rintro r w ⟨x', f', rfl, rfl, hR', hf'⟩
  refine zs_eq (wl' := zL_W x' d f') (st' := [.int k]) (zL_bkB x x' d f f') rfl rfl rfl ?_
  refine zs_istore B dL_law_906 (i := 5) (by decide) rfl ?_
  refine zs_aload_n B dL_law_908 (i := 2) rfl rfl ?_
  refine zs_aload_n B dL_law_909 (i := 0) rfl rfl ?_
  refine zs_iload B dL_law_910 (i := 4) rfl ?_
  refine zs_iconst (v := 1) B dL_law_912 (by decide) ?_
  refine zs_iadd B dL_law_913 ?_
  refine zs_sal B hX (j := 4 * j + 1) (nI_add (4 * j) 1) (by omega) dL_law_914 ?_
  refine zs_i2c B dL_law_915 ?_
  refine zs_aload_n B dL_law_916 (i := 0) rfl rfl ?_
  refine zs_iload B dL_law_917 (i := 4) rfl ?_
  refine zs_iconst (v := 2) B dL_law_919 (by decide) ?_
  refine zs_iadd B dL_law_920 ?_
  refine zs_sal B hX (j := 4 * j + 2) (nI_add (4 * j) 2) (by omega) dL_law_921 ?_
  refine zs_aload_n B dL_law_922 (i := 0) rfl rfl ?_
  refine zs_iload B dL_law_923 (i := 4) rfl ?_
  refine zs_iconst (v := 3) B dL_law_925 (by decide) ?_
  refine zs_iadd B dL_law_926 ?_
  refine zs_sal B hX (j := 4 * j + 3) (nI_add (4 * j) 3) (by omega) dL_law_927 ?_
  refine zs_callV (n := 3) (wlc := zm_W 0 d) (as := [.int ((xs (4 * j + 1)).toUInt32 % 65536).toInt32, .int (xs (4 * j + 2)), .int (xs (4 * j + 3))]) (rest := []) (b := 0) zm_is B hm gL_law_X5_setAt rfl ⟨rfl, by decide, by decide, by decide +kernel⟩ rfl (zL_selM x' d f') zm_nd rfl rfl rfl ⟨(by exact Nat.le_of_ble_eq_true rfl), (by exact Nat.le_of_ble_eq_true rfl)⟩ (by exact Nat.le_of_ble_eq_true rfl) ⟨by omega, by omega⟩ dL_law_928 zG_len (fun _ _ h => h.elim) (fun _ _ h => h.elim) ?_
  rintro r w ⟨d', v, rfl, rfl, hM', hv⟩
  refine zs_eq (wl' := zL_W x' d' f') (st' := [.int v]) (zL_bkM x' d d' f') rfl rfl rfl ?_
  refine zs_istore B dL_law_931 (i := 6) (by decide) rfl ?_
  refine zs_aload_n B dL_law_933 (i := 2) rfl rfl ?_
  refine zs_callV (n := 0) (wlc := zm_W 0 d') (as := []) (rest := []) (b := 0) zm_is B (zm_thrown hl D dA d' U' k hM') gL_law_X5_thrown rfl ⟨rfl, by decide, by decide, by decide +kernel⟩ rfl (zL_selM x' d' f') zm_nd rfl rfl rfl ⟨(by exact Nat.le_of_ble_eq_true rfl), (by exact Nat.le_of_ble_eq_true rfl)⟩ (by exact Nat.le_of_ble_eq_true rfl) ⟨by omega, by omega⟩ dL_law_934 (by rintro v w ⟨rfl, rfl⟩; rfl) (fun _ _ h => h.elim) (fun _ _ h => h.elim) ?_
  rintro r w ⟨rfl, rfl⟩
  refine zs_eq (wl' := zL_W x' d' f') (st' := [.int k]) (zL_bkM x' d' d' f') rfl rfl rfl ?_
  refine zs_iload B dL_law_937 (i := 5) rfl ?_
  refine zs_icmp_eq (tgt := 944) B dL_law_939 (by decide) (fun _ => ?_) (fun h => absurd rfl h)
  refine zs_iload B dL_law_944 (i := 5) rfl ?_
  refine zs_if_ne (tgt := 961) B dL_law_946 (by decide) (fun _ => ?_) (fun hk0 => ?_)
  · refine zs_goto (tgt := 1403) B dL_law_961 (by decide) ?_
    refine zs_widen (k := cells + 2) (n := slots + 12) (by omega) (by omega) ?_
    exact kk _ _ _ _ _ _ _ _ hC' hR' hM'
  · refine zs_aload_n B dL_law_949 (i := 3) rfl rfl ?_
    refine zs_iconst (v := 0) B dL_law_950 (by decide) ?_
    refine zs_lal (f := f') (n := 1) B 0 (zL_at _ _ _) (by decide) (by decide) nI_0.symm dL_law_951 ?_
    refine zs_iload B dL_law_952 (i := 6) rfl ?_
    refine zs_i2l B dL_law_954 ?_
    refine zs_lcmp B dL_law_955 ?_
    refine zs_if_eq (tgt := 961) B dL_law_956 (by decide) (fun _ => ?_) (fun h => absurd (zL_cmp ((hf' hk0).trans (by rw [hv hk0]))) h)
    refine zs_goto (tgt := 1403) B dL_law_961 (by decide) ?_
    refine zs_widen (k := cells + 2) (n := slots + 12) (by omega) (by omega) ?_
    exact kk _ _ _ _ _ _ _ _ hC' hR' hM'
set_option maxHeartbeats 8000000 in
theorem zL_c_removeAt {p : Program} {l : Launch} {e : Env} {s : State} {m : MethodId} {args : Array Value} {below : List Frame} {meth : Method} {c : Code} {Q : State → Prop} {ret : Option FieldType} {nm : String} {tb : List ExceptionTableEntry} {D : va_G} {dA : Nat → ClassId} {A : Nat → Prop} {ad0 : Nat → Nat} {cells slots : Nat} (hl : l.stackTraces = false) (B : zw_B p l s m args meth c cL_law 7 ret RL nm wsL_law tb D dA A) {n9 : Nat} {xs : Nat → Int32} (hX : zL_X s A ad0 n9 xs) {x : zb_D} {T : zb_T} {d : zm_D} {U : zm_U} {t : Int32} {f : Nat → Int64} (hR : zb_R T x) (hM : zm_R U t d) (hC : zL_C T U) (j : Nat) (hj : 4 * j + 4 ≤ n9) {o5 o6 : Option Value} (hc : cells + 2 ≤ room_1.cells ∧ slots + 12 ≤ room_1.slots)
    (kk : zL_K p l e s m args below meth c Q D dA A ad0 cells slots j) : zw_k p l e room_1 s m args below meth c Q D dA A ad0 0 7 cells slots (zL_W x d f) 964 [some (.ref 1000), some (.ref 0), some (.ref 70), some (.ref 105), some (.int (nI (4 * j))), o5, o6] [] := by
  obtain ⟨k, a, E, T', U', hk, hT, hC', hb, hm⟩ := zX_removeAt hl D dA hR hM hC ((xs (4 * j + 1)).toUInt32 % 65536).toInt32 (xs (4 * j + 2))
  refine zs_aload_n B dL_law_964 (i := 1) rfl rfl ?_
  refine zs_aload_n B dL_law_965 (i := 0) rfl rfl ?_
  refine zs_iload B dL_law_966 (i := 4) rfl ?_
  refine zs_iconst (v := 1) B dL_law_968 (by decide) ?_
  refine zs_iadd B dL_law_969 ?_
  refine zs_sal B hX (j := 4 * j + 1) (nI_add (4 * j) 1) (by omega) dL_law_970 ?_
  refine zs_i2c B dL_law_971 ?_
  refine zs_aload_n B dL_law_972 (i := 0) rfl rfl ?_
  refine zs_iload B dL_law_973 (i := 4) rfl ?_
  refine zs_iconst (v := 2) B dL_law_975 (by decide) ?_
  refine zs_iadd B dL_law_976 ?_
  refine zs_sal B hX (j := 4 * j + 2) (nI_add (4 * j) 2) (by omega) dL_law_977 ?_
  refine zs_aload_n B dL_law_978 (i := 3) rfl rfl ?_
  refine zs_callSW (n := 4) (wlc := zb_W x ++ [zL_o f]) (as := [.ref 0, .int ((xs (4 * j + 1)).toUInt32 % 65536).toInt32, .int (xs (4 * j + 2)), .ref 70]) (rest := []) zL_isB B (hL_removeAt hl D dA hR ((xs (4 * j + 1)).toUInt32 % 65536).toInt32 (xs (4 * j + 2)) f k a E T' hk hT hb) gL_law_L_removeAt rfl ⟨by decide, by decide, by decide +kernel⟩ rfl (zL_selB x d f) zL_ndB rfl ⟨(by exact Nat.le_of_ble_eq_true rfl), (by exact Nat.le_of_ble_eq_true rfl)⟩ (by exact Nat.le_of_ble_eq_true rfl) ⟨by omega, by omega⟩ dL_law_979 zH_len (fun _ _ h => h.elim) (fun _ _ h => h.elim) ?_
  rintro r w ⟨x', f', rfl, rfl, hR', hf'⟩
  refine zs_eq (wl' := zL_W x' d f') (st' := [.int k]) (zL_bkB x x' d f f') rfl rfl rfl ?_
  refine zs_istore B dL_law_982 (i := 5) (by decide) rfl ?_
  refine zs_aload_n B dL_law_984 (i := 2) rfl rfl ?_
  refine zs_aload_n B dL_law_985 (i := 0) rfl rfl ?_
  refine zs_iload B dL_law_986 (i := 4) rfl ?_
  refine zs_iconst (v := 1) B dL_law_988 (by decide) ?_
  refine zs_iadd B dL_law_989 ?_
  refine zs_sal B hX (j := 4 * j + 1) (nI_add (4 * j) 1) (by omega) dL_law_990 ?_
  refine zs_i2c B dL_law_991 ?_
  refine zs_aload_n B dL_law_992 (i := 0) rfl rfl ?_
  refine zs_iload B dL_law_993 (i := 4) rfl ?_
  refine zs_iconst (v := 2) B dL_law_995 (by decide) ?_
  refine zs_iadd B dL_law_996 ?_
  refine zs_sal B hX (j := 4 * j + 2) (nI_add (4 * j) 2) (by omega) dL_law_997 ?_
  refine zs_callV (n := 2) (wlc := zm_W 0 d) (as := [.int ((xs (4 * j + 1)).toUInt32 % 65536).toInt32, .int (xs (4 * j + 2))]) (rest := []) (b := 0) zm_is B hm gL_law_X5_removeAt rfl ⟨rfl, by decide, by decide, by decide +kernel⟩ rfl (zL_selM x' d f') zm_nd rfl rfl rfl ⟨(by exact Nat.le_of_ble_eq_true rfl), (by exact Nat.le_of_ble_eq_true rfl)⟩ (by exact Nat.le_of_ble_eq_true rfl) ⟨by omega, by omega⟩ dL_law_998 zG_len (fun _ _ h => h.elim) (fun _ _ h => h.elim) ?_
  rintro r w ⟨d', v, rfl, rfl, hM', hv⟩
  refine zs_eq (wl' := zL_W x' d' f') (st' := [.int v]) (zL_bkM x' d d' f') rfl rfl rfl ?_
  refine zs_istore B dL_law_1001 (i := 6) (by decide) rfl ?_
  refine zs_aload_n B dL_law_1003 (i := 2) rfl rfl ?_
  refine zs_callV (n := 0) (wlc := zm_W 0 d') (as := []) (rest := []) (b := 0) zm_is B (zm_thrown hl D dA d' U' k hM') gL_law_X5_thrown rfl ⟨rfl, by decide, by decide, by decide +kernel⟩ rfl (zL_selM x' d' f') zm_nd rfl rfl rfl ⟨(by exact Nat.le_of_ble_eq_true rfl), (by exact Nat.le_of_ble_eq_true rfl)⟩ (by exact Nat.le_of_ble_eq_true rfl) ⟨by omega, by omega⟩ dL_law_1004 (by rintro v w ⟨rfl, rfl⟩; rfl) (fun _ _ h => h.elim) (fun _ _ h => h.elim) ?_
  rintro r w ⟨rfl, rfl⟩
  refine zs_eq (wl' := zL_W x' d' f') (st' := [.int k]) (zL_bkM x' d' d' f') rfl rfl rfl ?_
  refine zs_iload B dL_law_1007 (i := 5) rfl ?_
  refine zs_icmp_eq (tgt := 1014) B dL_law_1009 (by decide) (fun _ => ?_) (fun h => absurd rfl h)
  refine zs_iload B dL_law_1014 (i := 5) rfl ?_
  refine zs_if_ne (tgt := 1031) B dL_law_1016 (by decide) (fun _ => ?_) (fun hk0 => ?_)
  · refine zs_goto (tgt := 1403) B dL_law_1031 (by decide) ?_
    refine zs_widen (k := cells + 2) (n := slots + 12) (by omega) (by omega) ?_
    exact kk _ _ _ _ _ _ _ _ hC' hR' hM'
  · refine zs_aload_n B dL_law_1019 (i := 3) rfl rfl ?_
    refine zs_iconst (v := 0) B dL_law_1020 (by decide) ?_
    refine zs_lal (f := f') (n := 1) B 0 (zL_at _ _ _) (by decide) (by decide) nI_0.symm dL_law_1021 ?_
    refine zs_iload B dL_law_1022 (i := 6) rfl ?_
    refine zs_i2l B dL_law_1024 ?_
    refine zs_lcmp B dL_law_1025 ?_
    refine zs_if_eq (tgt := 1031) B dL_law_1026 (by decide) (fun _ => ?_) (fun h => absurd (zL_cmp ((hf' hk0).trans (by rw [hv hk0]))) h)
    refine zs_goto (tgt := 1403) B dL_law_1031 (by decide) ?_
    refine zs_widen (k := cells + 2) (n := slots + 12) (by omega) (by omega) ?_
    exact kk _ _ _ _ _ _ _ _ hC' hR' hM'
set_option maxHeartbeats 8000000 in
theorem zL_c_thin {p : Program} {l : Launch} {e : Env} {s : State} {m : MethodId} {args : Array Value} {below : List Frame} {meth : Method} {c : Code} {Q : State → Prop} {ret : Option FieldType} {nm : String} {tb : List ExceptionTableEntry} {D : va_G} {dA : Nat → ClassId} {A : Nat → Prop} {ad0 : Nat → Nat} {cells slots : Nat} (hl : l.stackTraces = false) (B : zw_B p l s m args meth c cL_law 7 ret RL nm wsL_law tb D dA A) {n9 : Nat} {xs : Nat → Int32} (hX : zL_X s A ad0 n9 xs) {x : zb_D} {T : zb_T} {d : zm_D} {U : zm_U} {t : Int32} {f : Nat → Int64} (hR : zb_R T x) (hM : zm_R U t d) (hC : zL_C T U) (j : Nat) (hj : 4 * j + 4 ≤ n9) {o5 o6 : Option Value} (hc : cells + 2 ≤ room_1.cells ∧ slots + 12 ≤ room_1.slots)
    (kk : zL_K p l e s m args below meth c Q D dA A ad0 cells slots j) : zw_k p l e room_1 s m args below meth c Q D dA A ad0 0 7 cells slots (zL_W x d f) 1034 [some (.ref 1000), some (.ref 0), some (.ref 70), some (.ref 105), some (.int (nI (4 * j))), o5, o6] [] := by
  obtain ⟨k, a, E, T', U', hk, hT, hC', hb, hm⟩ := zX_thin hl D dA hR hM hC ((xs (4 * j + 1)).toUInt32 % 65536).toInt32 (xs (4 * j + 2))
  refine zs_aload_n B dL_law_1034 (i := 1) rfl rfl ?_
  refine zs_aload_n B dL_law_1035 (i := 0) rfl rfl ?_
  refine zs_iload B dL_law_1036 (i := 4) rfl ?_
  refine zs_iconst (v := 1) B dL_law_1038 (by decide) ?_
  refine zs_iadd B dL_law_1039 ?_
  refine zs_sal B hX (j := 4 * j + 1) (nI_add (4 * j) 1) (by omega) dL_law_1040 ?_
  refine zs_i2c B dL_law_1041 ?_
  refine zs_aload_n B dL_law_1042 (i := 0) rfl rfl ?_
  refine zs_iload B dL_law_1043 (i := 4) rfl ?_
  refine zs_iconst (v := 2) B dL_law_1045 (by decide) ?_
  refine zs_iadd B dL_law_1046 ?_
  refine zs_sal B hX (j := 4 * j + 2) (nI_add (4 * j) 2) (by omega) dL_law_1047 ?_
  refine zs_aload_n B dL_law_1048 (i := 3) rfl rfl ?_
  refine zs_callSW (n := 4) (wlc := zb_W x ++ [zL_o f]) (as := [.ref 0, .int ((xs (4 * j + 1)).toUInt32 % 65536).toInt32, .int (xs (4 * j + 2)), .ref 70]) (rest := []) zL_isB B (hL_thin hl D dA hR ((xs (4 * j + 1)).toUInt32 % 65536).toInt32 (xs (4 * j + 2)) f k a E T' hk hT hb) gL_law_L_thin rfl ⟨by decide, by decide, by decide +kernel⟩ rfl (zL_selB x d f) zL_ndB rfl ⟨(by exact Nat.le_of_ble_eq_true rfl), (by exact Nat.le_of_ble_eq_true rfl)⟩ (by exact Nat.le_of_ble_eq_true rfl) ⟨by omega, by omega⟩ dL_law_1049 zH_len (fun _ _ h => h.elim) (fun _ _ h => h.elim) ?_
  rintro r w ⟨x', f', rfl, rfl, hR', hf'⟩
  refine zs_eq (wl' := zL_W x' d f') (st' := [.int k]) (zL_bkB x x' d f f') rfl rfl rfl ?_
  refine zs_istore B dL_law_1052 (i := 5) (by decide) rfl ?_
  refine zs_aload_n B dL_law_1054 (i := 2) rfl rfl ?_
  refine zs_aload_n B dL_law_1055 (i := 0) rfl rfl ?_
  refine zs_iload B dL_law_1056 (i := 4) rfl ?_
  refine zs_iconst (v := 1) B dL_law_1058 (by decide) ?_
  refine zs_iadd B dL_law_1059 ?_
  refine zs_sal B hX (j := 4 * j + 1) (nI_add (4 * j) 1) (by omega) dL_law_1060 ?_
  refine zs_i2c B dL_law_1061 ?_
  refine zs_aload_n B dL_law_1062 (i := 0) rfl rfl ?_
  refine zs_iload B dL_law_1063 (i := 4) rfl ?_
  refine zs_iconst (v := 2) B dL_law_1065 (by decide) ?_
  refine zs_iadd B dL_law_1066 ?_
  refine zs_sal B hX (j := 4 * j + 2) (nI_add (4 * j) 2) (by omega) dL_law_1067 ?_
  refine zs_callV (n := 2) (wlc := zm_W 0 d) (as := [.int ((xs (4 * j + 1)).toUInt32 % 65536).toInt32, .int (xs (4 * j + 2))]) (rest := []) (b := 0) zm_is B hm gL_law_X5_thin rfl ⟨rfl, by decide, by decide, by decide +kernel⟩ rfl (zL_selM x' d f') zm_nd rfl rfl rfl ⟨(by exact Nat.le_of_ble_eq_true rfl), (by exact Nat.le_of_ble_eq_true rfl)⟩ (by exact Nat.le_of_ble_eq_true rfl) ⟨by omega, by omega⟩ dL_law_1068 zG_len (fun _ _ h => h.elim) (fun _ _ h => h.elim) ?_
  rintro r w ⟨d', v, rfl, rfl, hM', hv⟩
  refine zs_eq (wl' := zL_W x' d' f') (st' := [.int v]) (zL_bkM x' d d' f') rfl rfl rfl ?_
  refine zs_istore B dL_law_1071 (i := 6) (by decide) rfl ?_
  refine zs_aload_n B dL_law_1073 (i := 2) rfl rfl ?_
  refine zs_callV (n := 0) (wlc := zm_W 0 d') (as := []) (rest := []) (b := 0) zm_is B (zm_thrown hl D dA d' U' k hM') gL_law_X5_thrown rfl ⟨rfl, by decide, by decide, by decide +kernel⟩ rfl (zL_selM x' d' f') zm_nd rfl rfl rfl ⟨(by exact Nat.le_of_ble_eq_true rfl), (by exact Nat.le_of_ble_eq_true rfl)⟩ (by exact Nat.le_of_ble_eq_true rfl) ⟨by omega, by omega⟩ dL_law_1074 (by rintro v w ⟨rfl, rfl⟩; rfl) (fun _ _ h => h.elim) (fun _ _ h => h.elim) ?_
  rintro r w ⟨rfl, rfl⟩
  refine zs_eq (wl' := zL_W x' d' f') (st' := [.int k]) (zL_bkM x' d' d' f') rfl rfl rfl ?_
  refine zs_iload B dL_law_1077 (i := 5) rfl ?_
  refine zs_icmp_eq (tgt := 1084) B dL_law_1079 (by decide) (fun _ => ?_) (fun h => absurd rfl h)
  refine zs_iload B dL_law_1084 (i := 5) rfl ?_
  refine zs_if_ne (tgt := 1101) B dL_law_1086 (by decide) (fun _ => ?_) (fun hk0 => ?_)
  · refine zs_goto (tgt := 1403) B dL_law_1101 (by decide) ?_
    refine zs_widen (k := cells + 2) (n := slots + 12) (by omega) (by omega) ?_
    exact kk _ _ _ _ _ _ _ _ hC' hR' hM'
  · refine zs_aload_n B dL_law_1089 (i := 3) rfl rfl ?_
    refine zs_iconst (v := 0) B dL_law_1090 (by decide) ?_
    refine zs_lal (f := f') (n := 1) B 0 (zL_at _ _ _) (by decide) (by decide) nI_0.symm dL_law_1091 ?_
    refine zs_iload B dL_law_1092 (i := 6) rfl ?_
    refine zs_i2l B dL_law_1094 ?_
    refine zs_lcmp B dL_law_1095 ?_
    refine zs_if_eq (tgt := 1101) B dL_law_1096 (by decide) (fun _ => ?_) (fun h => absurd (zL_cmp ((hf' hk0).trans (by rw [hv hk0]))) h)
    refine zs_goto (tgt := 1403) B dL_law_1101 (by decide) ?_
    refine zs_widen (k := cells + 2) (n := slots + 12) (by omega) (by omega) ?_
    exact kk _ _ _ _ _ _ _ _ hC' hR' hM'
set_option maxHeartbeats 8000000 in
theorem zL_c_walk {p : Program} {l : Launch} {e : Env} {s : State} {m : MethodId} {args : Array Value} {below : List Frame} {meth : Method} {c : Code} {Q : State → Prop} {ret : Option FieldType} {nm : String} {tb : List ExceptionTableEntry} {D : va_G} {dA : Nat → ClassId} {A : Nat → Prop} {ad0 : Nat → Nat} {cells slots : Nat} (hl : l.stackTraces = false) (B : zw_B p l s m args meth c cL_law 7 ret RL nm wsL_law tb D dA A) {n9 : Nat} {xs : Nat → Int32} (hX : zL_X s A ad0 n9 xs) {x : zb_D} {T : zb_T} {d : zm_D} {U : zm_U} {t : Int32} {f : Nat → Int64} (hR : zb_R T x) (hM : zm_R U t d) (hC : zL_C T U) (j : Nat) (hj : 4 * j + 4 ≤ n9) {o5 o6 : Option Value} (hc : cells + 2 ≤ room_1.cells ∧ slots + 12 ≤ room_1.slots)
    (kk : zL_K p l e s m args below meth c Q D dA A ad0 cells slots j) : zw_k p l e room_1 s m args below meth c Q D dA A ad0 0 7 cells slots (zL_W x d f) 1104 [some (.ref 1000), some (.ref 0), some (.ref 70), some (.ref 105), some (.int (nI (4 * j))), o5, o6] [] := by
  obtain ⟨k, a, E, T', U', hk, hT, hC', hb, hm⟩ := zX_walk hl D dA hR hM hC ((xs (4 * j + 1)).toUInt32 % 65536).toInt32
  refine zs_aload_n B dL_law_1104 (i := 1) rfl rfl ?_
  refine zs_aload_n B dL_law_1105 (i := 0) rfl rfl ?_
  refine zs_iload B dL_law_1106 (i := 4) rfl ?_
  refine zs_iconst (v := 1) B dL_law_1108 (by decide) ?_
  refine zs_iadd B dL_law_1109 ?_
  refine zs_sal B hX (j := 4 * j + 1) (nI_add (4 * j) 1) (by omega) dL_law_1110 ?_
  refine zs_i2c B dL_law_1111 ?_
  refine zs_aload_n B dL_law_1112 (i := 3) rfl rfl ?_
  refine zs_callSW (n := 3) (wlc := zb_W x ++ [zL_o f]) (as := [.ref 0, .int ((xs (4 * j + 1)).toUInt32 % 65536).toInt32, .ref 70]) (rest := []) zL_isB B (hL_walk hl D dA hR ((xs (4 * j + 1)).toUInt32 % 65536).toInt32 f k a E T' hk hT hb) gL_law_L_walk rfl ⟨by decide, by decide, by decide +kernel⟩ rfl (zL_selB x d f) zL_ndB rfl ⟨(by exact Nat.le_of_ble_eq_true rfl), (by exact Nat.le_of_ble_eq_true rfl)⟩ (by exact Nat.le_of_ble_eq_true rfl) ⟨by omega, by omega⟩ dL_law_1113 zH_len (fun _ _ h => h.elim) (fun _ _ h => h.elim) ?_
  rintro r w ⟨x', f', rfl, rfl, hR', hf'⟩
  refine zs_eq (wl' := zL_W x' d f') (st' := [.int k]) (zL_bkB x x' d f f') rfl rfl rfl ?_
  refine zs_istore B dL_law_1116 (i := 5) (by decide) rfl ?_
  refine zs_aload_n B dL_law_1118 (i := 2) rfl rfl ?_
  refine zs_aload_n B dL_law_1119 (i := 0) rfl rfl ?_
  refine zs_iload B dL_law_1120 (i := 4) rfl ?_
  refine zs_iconst (v := 1) B dL_law_1122 (by decide) ?_
  refine zs_iadd B dL_law_1123 ?_
  refine zs_sal B hX (j := 4 * j + 1) (nI_add (4 * j) 1) (by omega) dL_law_1124 ?_
  refine zs_i2c B dL_law_1125 ?_
  refine zs_callV (n := 1) (wlc := zm_W 0 d) (as := [.int ((xs (4 * j + 1)).toUInt32 % 65536).toInt32]) (rest := []) (b := 0) zm_is B hm gL_law_X5_walk rfl ⟨rfl, by decide, by decide, by decide +kernel⟩ rfl (zL_selM x' d f') zm_nd rfl rfl rfl ⟨(by exact Nat.le_of_ble_eq_true rfl), (by exact Nat.le_of_ble_eq_true rfl)⟩ (by exact Nat.le_of_ble_eq_true rfl) ⟨by omega, by omega⟩ dL_law_1126 zG_len (fun _ _ h => h.elim) (fun _ _ h => h.elim) ?_
  rintro r w ⟨d', v, rfl, rfl, hM', hv⟩
  refine zs_eq (wl' := zL_W x' d' f') (st' := [.int v]) (zL_bkM x' d d' f') rfl rfl rfl ?_
  refine zs_istore B dL_law_1129 (i := 6) (by decide) rfl ?_
  refine zs_aload_n B dL_law_1131 (i := 2) rfl rfl ?_
  refine zs_callV (n := 0) (wlc := zm_W 0 d') (as := []) (rest := []) (b := 0) zm_is B (zm_thrown hl D dA d' U' k hM') gL_law_X5_thrown rfl ⟨rfl, by decide, by decide, by decide +kernel⟩ rfl (zL_selM x' d' f') zm_nd rfl rfl rfl ⟨(by exact Nat.le_of_ble_eq_true rfl), (by exact Nat.le_of_ble_eq_true rfl)⟩ (by exact Nat.le_of_ble_eq_true rfl) ⟨by omega, by omega⟩ dL_law_1132 (by rintro v w ⟨rfl, rfl⟩; rfl) (fun _ _ h => h.elim) (fun _ _ h => h.elim) ?_
  rintro r w ⟨rfl, rfl⟩
  refine zs_eq (wl' := zL_W x' d' f') (st' := [.int k]) (zL_bkM x' d' d' f') rfl rfl rfl ?_
  refine zs_iload B dL_law_1135 (i := 5) rfl ?_
  refine zs_icmp_eq (tgt := 1142) B dL_law_1137 (by decide) (fun _ => ?_) (fun h => absurd rfl h)
  refine zs_iload B dL_law_1142 (i := 5) rfl ?_
  refine zs_if_ne (tgt := 1159) B dL_law_1144 (by decide) (fun _ => ?_) (fun hk0 => ?_)
  · refine zs_goto (tgt := 1403) B dL_law_1159 (by decide) ?_
    refine zs_widen (k := cells + 2) (n := slots + 12) (by omega) (by omega) ?_
    exact kk _ _ _ _ _ _ _ _ hC' hR' hM'
  · refine zs_aload_n B dL_law_1147 (i := 3) rfl rfl ?_
    refine zs_iconst (v := 0) B dL_law_1148 (by decide) ?_
    refine zs_lal (f := f') (n := 1) B 0 (zL_at _ _ _) (by decide) (by decide) nI_0.symm dL_law_1149 ?_
    refine zs_iload B dL_law_1150 (i := 6) rfl ?_
    refine zs_i2l B dL_law_1152 ?_
    refine zs_lcmp B dL_law_1153 ?_
    refine zs_if_eq (tgt := 1159) B dL_law_1154 (by decide) (fun _ => ?_) (fun h => absurd (zL_cmp ((hf' hk0).trans (by rw [hv hk0]))) h)
    refine zs_goto (tgt := 1403) B dL_law_1159 (by decide) ?_
    refine zs_widen (k := cells + 2) (n := slots + 12) (by omega) (by omega) ?_
    exact kk _ _ _ _ _ _ _ _ hC' hR' hM'
set_option maxHeartbeats 8000000 in
theorem zL_c_step {p : Program} {l : Launch} {e : Env} {s : State} {m : MethodId} {args : Array Value} {below : List Frame} {meth : Method} {c : Code} {Q : State → Prop} {ret : Option FieldType} {nm : String} {tb : List ExceptionTableEntry} {D : va_G} {dA : Nat → ClassId} {A : Nat → Prop} {ad0 : Nat → Nat} {cells slots : Nat} (hl : l.stackTraces = false) (B : zw_B p l s m args meth c cL_law 7 ret RL nm wsL_law tb D dA A) {n9 : Nat} {xs : Nat → Int32} (hX : zL_X s A ad0 n9 xs) {x : zb_D} {T : zb_T} {d : zm_D} {U : zm_U} {t : Int32} {f : Nat → Int64} (hR : zb_R T x) (hM : zm_R U t d) (hC : zL_C T U) (j : Nat) (hj : 4 * j + 4 ≤ n9) {o5 o6 : Option Value} (hc : cells + 2 ≤ room_1.cells ∧ slots + 12 ≤ room_1.slots)
    (kk : zL_K p l e s m args below meth c Q D dA A ad0 cells slots j) : zw_k p l e room_1 s m args below meth c Q D dA A ad0 0 7 cells slots (zL_W x d f) 1162 [some (.ref 1000), some (.ref 0), some (.ref 70), some (.ref 105), some (.int (nI (4 * j))), o5, o6] [] := by
  obtain ⟨k, a, E, T', U', hk, hT, hC', hb, hm⟩ := zX_step hl D dA hR hM hC
  refine zs_aload_n B dL_law_1162 (i := 1) rfl rfl ?_
  refine zs_aload_n B dL_law_1163 (i := 3) rfl rfl ?_
  refine zs_callSW (n := 2) (wlc := zb_W x ++ [zL_o f]) (as := [.ref 0, .ref 70]) (rest := []) zL_isB B (hL_step hl D dA hR f k a E T' hk hT hb) gL_law_L_step rfl ⟨by decide, by decide, by decide +kernel⟩ rfl (zL_selB x d f) zL_ndB rfl ⟨(by exact Nat.le_of_ble_eq_true rfl), (by exact Nat.le_of_ble_eq_true rfl)⟩ (by exact Nat.le_of_ble_eq_true rfl) ⟨by omega, by omega⟩ dL_law_1164 zH_len (fun _ _ h => h.elim) (fun _ _ h => h.elim) ?_
  rintro r w ⟨x', f', rfl, rfl, hR', hf'⟩
  refine zs_eq (wl' := zL_W x' d f') (st' := [.int k]) (zL_bkB x x' d f f') rfl rfl rfl ?_
  refine zs_istore B dL_law_1167 (i := 5) (by decide) rfl ?_
  refine zs_aload_n B dL_law_1169 (i := 2) rfl rfl ?_
  refine zs_callV (n := 0) (wlc := zm_W 0 d) (as := []) (rest := []) (b := 0) zm_is B hm gL_law_X5_step rfl ⟨rfl, by decide, by decide, by decide +kernel⟩ rfl (zL_selM x' d f') zm_nd rfl rfl rfl ⟨(by exact Nat.le_of_ble_eq_true rfl), (by exact Nat.le_of_ble_eq_true rfl)⟩ (by exact Nat.le_of_ble_eq_true rfl) ⟨by omega, by omega⟩ dL_law_1170 zG_len (fun _ _ h => h.elim) (fun _ _ h => h.elim) ?_
  rintro r w ⟨d', v, rfl, rfl, hM', hv⟩
  refine zs_eq (wl' := zL_W x' d' f') (st' := [.int v]) (zL_bkM x' d d' f') rfl rfl rfl ?_
  refine zs_istore B dL_law_1173 (i := 6) (by decide) rfl ?_
  refine zs_aload_n B dL_law_1175 (i := 2) rfl rfl ?_
  refine zs_callV (n := 0) (wlc := zm_W 0 d') (as := []) (rest := []) (b := 0) zm_is B (zm_thrown hl D dA d' U' k hM') gL_law_X5_thrown rfl ⟨rfl, by decide, by decide, by decide +kernel⟩ rfl (zL_selM x' d' f') zm_nd rfl rfl rfl ⟨(by exact Nat.le_of_ble_eq_true rfl), (by exact Nat.le_of_ble_eq_true rfl)⟩ (by exact Nat.le_of_ble_eq_true rfl) ⟨by omega, by omega⟩ dL_law_1176 (by rintro v w ⟨rfl, rfl⟩; rfl) (fun _ _ h => h.elim) (fun _ _ h => h.elim) ?_
  rintro r w ⟨rfl, rfl⟩
  refine zs_eq (wl' := zL_W x' d' f') (st' := [.int k]) (zL_bkM x' d' d' f') rfl rfl rfl ?_
  refine zs_iload B dL_law_1179 (i := 5) rfl ?_
  refine zs_icmp_eq (tgt := 1186) B dL_law_1181 (by decide) (fun _ => ?_) (fun h => absurd rfl h)
  refine zs_iload B dL_law_1186 (i := 5) rfl ?_
  refine zs_if_ne (tgt := 1203) B dL_law_1188 (by decide) (fun _ => ?_) (fun hk0 => ?_)
  · refine zs_goto (tgt := 1403) B dL_law_1203 (by decide) ?_
    refine zs_widen (k := cells + 2) (n := slots + 12) (by omega) (by omega) ?_
    exact kk _ _ _ _ _ _ _ _ hC' hR' hM'
  · refine zs_aload_n B dL_law_1191 (i := 3) rfl rfl ?_
    refine zs_iconst (v := 0) B dL_law_1192 (by decide) ?_
    refine zs_lal (f := f') (n := 1) B 0 (zL_at _ _ _) (by decide) (by decide) nI_0.symm dL_law_1193 ?_
    refine zs_iload B dL_law_1194 (i := 6) rfl ?_
    refine zs_i2l B dL_law_1196 ?_
    refine zs_lcmp B dL_law_1197 ?_
    refine zs_if_eq (tgt := 1203) B dL_law_1198 (by decide) (fun _ => ?_) (fun h => absurd (zL_cmp ((hf' hk0).trans (by rw [hv hk0]))) h)
    refine zs_goto (tgt := 1403) B dL_law_1203 (by decide) ?_
    refine zs_widen (k := cells + 2) (n := slots + 12) (by omega) (by omega) ?_
    exact kk _ _ _ _ _ _ _ _ hC' hR' hM'
