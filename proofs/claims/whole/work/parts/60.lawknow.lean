/-! what the tables say at the law's start -/
theorem zL_arr {args : Array Value} {s : State} {ty : FieldType} (h : (Cond.arrayClass ty).before args s = true) : ∃ c : ClassId, ArrOfT s c ty ∧ s.vm.findClass ("[" ++ ty.toString) = some c := by
  obtain ⟨c, k, comp, h1, h2, h3⟩ := Cond.arrayClass_spec h
  exact ⟨c, fun N z => ⟨(fun k h => by cases h), k, h2, comp, h3⟩, h1⟩
theorem zL_know {args : Array Value} {s : State} (hts : ∀ w ∈ lw_tbl, w.before args s = true) (hgv : (Jvm.Cond.and given_1 narrow_1).before args s = true) : ∃ (D : va_G) (dA : Nat → ClassId), zw_K D dA s := by
  obtain ⟨c0, i0, k0⟩ := u_known (C := RX0) (T := TX0) (N := 4) (n := 4) hts wsL_in_X0 (hts (.instantiable RX0 4) (by decide +kernel))
  obtain ⟨c1, i1, k1⟩ := u_known (C := RX1) (T := TX1) (N := 3) (n := 3) hts wsL_in_X1 (hts (.instantiable RX1 3) (by decide +kernel))
  obtain ⟨c2, i2, k2⟩ := u_known (C := RX2) (T := TX2) (N := 3) (n := 3) hts wsL_in_X2 (hts (.instantiable RX2 3) (by decide +kernel))
  obtain ⟨c3, i3, k3⟩ := u_known (C := RX3) (T := TX3) (N := 4) (n := 4) hts wsL_in_X3 (hts (.instantiable RX3 4) (by decide +kernel))
  obtain ⟨c4, i4, k4⟩ := u_known (C := RX4) (T := TX4) (N := 4) (n := 4) hts wsL_in_X4 (hts (.instantiable RX4 4) (by decide +kernel))
  obtain ⟨c5, i5, k5⟩ := u_known (C := RX5) (T := TX5) (N := 19) (n := 19) hts wsL_in_X5 (hts (.instantiable RX5 19) (by decide +kernel))
  obtain ⟨a0, r0, f0⟩ := zL_arr (hts (.arrayClass .int) (by decide +kernel))
  obtain ⟨a1, r1, f1⟩ := zL_arr (hts (.arrayClass .char) (by decide +kernel))
  obtain ⟨a2, r2, f2⟩ := zL_arr (hts (.arrayClass .long) (by decide +kernel))
  have hAO : va_AO "Twicebook$Page" s := va_AO.of (hts (.arrayOver (.object "Twicebook$Page")) (by decide +kernel))
  have hAA : zw_aoa s := hts (.arrayOver (.array .int)) (by decide +kernel)
  obtain ⟨cm3, a3, kA3, f3, -, g3, h3, j3⟩ := Cond.arrayOver_spec hAO
  obtain ⟨cm4, a4, kA4, f4, -, g4, h4, j4⟩ := zw_aoaSpec hAA
  have hs := flat_of_before _ hgv
  refine ⟨(fun k => if k = 0 then c0 else if k = 1 then c1 else if k = 2 then c2 else if k = 3 then c3 else if k = 4 then c4 else c5, fun k => if k = 0 then i0 else if k = 1 then i1 else if k = 2 then i2 else if k = 3 then i3 else if k = 4 then i4 else i5), fun k => if k = 0 then a0 else if k = 1 then a1 else if k = 2 then a2 else if k = 3 then a3 else a4, ⟨?_, ?_⟩, ?_, ?_, ?_, ?_, hAO, hAA, ?_⟩
  · intro k q hq
    match k, hq with
    | 0, hq => cases hq; exact k0
    | 1, hq => cases hq; exact k1
    | 2, hq => cases hq; exact k2
    | 3, hq => cases hq; exact k3
    | 4, hq => cases hq; exact k4
    | 5, hq => cases hq; exact k5
    | k + 6, hq => simp [vwCl] at hq
  · intro k q hq
    match k, hq with
    | 0, hq => cases hq; exact ⟨r0, f0⟩
    | 1, hq => cases hq; exact ⟨r1, f1⟩
    | 2, hq => cases hq; exact ⟨r2, f2⟩
    | 3, hq => cases hq; exact ⟨fun N z => ⟨(fun k h => by cases h), kA3, g3, cm3, h3⟩, kA3, cm3, g3, h3, f3, j3⟩
    | 4, hq => cases hq; exact ⟨fun N z => ⟨(fun k h => by cases h), kA4, g4, cm4, h4⟩, j4⟩
    | k + 5, hq => simp [zw_tys] at hq
  · intro q hq
    simp only [zw_strs, List.mem_cons, List.not_mem_nil, or_false] at hq
    rcases hq with rfl | rfl | rfl | rfl | rfl | rfl | rfl | rfl | rfl | rfl | rfl
    · obtain ⟨sa, -, -, -, ha, -⟩ := Cond.exactly_spec (hs (.exactly (.string "Twicebook" 114) "java/lang/String") (by decide +kernel))
      exact ⟨sa, vk_R.of (hts (.stringRef "Twicebook" 114 "the number is out of range") (by decide +kernel)) ha⟩
    · obtain ⟨sa, -, -, -, ha, -⟩ := Cond.exactly_spec (hs (.exactly (.string "Twicebook" 129) "java/lang/String") (by decide +kernel))
      exact ⟨sa, vk_R.of (hts (.stringRef "Twicebook" 129 "there is no walk") (by decide +kernel)) ha⟩
    · obtain ⟨sa, -, -, -, ha, -⟩ := Cond.exactly_spec (hs (.exactly (.string "Twicebook" 144) "java/lang/String") (by decide +kernel))
      exact ⟨sa, vk_R.of (hts (.stringRef "Twicebook" 144 "the walk has gone over all") (by decide +kernel)) ha⟩
    · obtain ⟨sa, -, -, -, ha, -⟩ := Cond.exactly_spec (hs (.exactly (.string "Twicebook" 153) "java/lang/String") (by decide +kernel))
      exact ⟨sa, vk_R.of (hts (.stringRef "Twicebook" 153 "there is nothing to cut") (by decide +kernel)) ha⟩
    · obtain ⟨sa, -, -, -, ha, -⟩ := Cond.exactly_spec (hs (.exactly (.string "Twicebook" 167) "java/lang/String") (by decide +kernel))
      exact ⟨sa, vk_R.of (hts (.stringRef "Twicebook" 167 "there is no such move") (by decide +kernel)) ha⟩
    · obtain ⟨sa, -, -, -, ha, -⟩ := Cond.exactly_spec (hs (.exactly (.string "Twicebook" 179) "java/lang/String") (by decide +kernel))
      exact ⟨sa, vk_R.of (hts (.stringRef "Twicebook" 179 "no change is kept") (by decide +kernel)) ha⟩
    · obtain ⟨sa, -, -, -, ha, -⟩ := Cond.exactly_spec (hs (.exactly (.string "Twicebook" 211) "java/lang/String") (by decide +kernel))
      exact ⟨sa, vk_R.of (hts (.stringRef "Twicebook" 211 "the key is out of range") (by decide +kernel)) ha⟩
    · obtain ⟨sa, -, -, -, ha, -⟩ := Cond.exactly_spec (hs (.exactly (.string "Twicebook" 213) "java/lang/String") (by decide +kernel))
      exact ⟨sa, vk_R.of (hts (.stringRef "Twicebook" 213 "the key is not there") (by decide +kernel)) ha⟩
    · obtain ⟨sa, -, -, -, ha, -⟩ := Cond.exactly_spec (hs (.exactly (.string "Twicebook" 215) "java/lang/String") (by decide +kernel))
      exact ⟨sa, vk_R.of (hts (.stringRef "Twicebook" 215 "there is no such order") (by decide +kernel)) ha⟩
    · obtain ⟨sa, -, -, -, ha, -⟩ := Cond.exactly_spec (hs (.exactly (.string "Twicebook" 217) "java/lang/String") (by decide +kernel))
      exact ⟨sa, vk_R.of (hts (.stringRef "Twicebook" 217 "there is no such place") (by decide +kernel)) ha⟩
    · obtain ⟨sa, -, -, -, ha, -⟩ := Cond.exactly_spec (hs (.exactly (.string "Twicebook" 78) "java/lang/String") (by decide +kernel))
      exact ⟨sa, vk_R.of (hts (.stringRef "Twicebook" 78 "the limit is out of range") (by decide +kernel)) ha⟩
  · intro w hw
    simp only [zw_nests, List.mem_cons, List.not_mem_nil, or_false] at hw
    rcases hw with rfl | rfl | rfl | rfl <;> exact va_Nw.of rfl (hts _ (by decide +kernel))
  · intro q hq
    simp only [zw_cast, List.mem_cons, List.not_mem_nil, or_false] at hq
    rcases hq with rfl | rfl | rfl | rfl <;> exact va_Nw.of rfl (hts _ (by decide +kernel))
  · intro q hq
    simp only [zw_noc, List.mem_cons, List.not_mem_nil, or_false] at hq
    rcases hq with rfl | rfl | rfl <;> exact va_Nc.of (hs (.not (.castable _ _)) (by decide +kernel))
  · intro w hw
    simp only [zw_decls, List.mem_cons, List.not_mem_nil, or_false] at hw
    rcases hw with rfl | rfl | rfl <;> exact va_Nw.of rfl (hts _ (by decide +kernel))
theorem zL_Z {args : Array Value} {s : State} (hts : ∀ w ∈ lw_tbl, w.before args s = true) (hgv : (Jvm.Cond.and given_1 narrow_1).before args s = true) : zw_Z (fun q : Nat => s.heap.size ≤ q) s s.heap := by
  have hs := flat_of_before _ hgv
  exact ⟨vx_Zqof (hts (.laysStatic Bundle.tN "UNASSIGNED_STACK" Bundle.steD) (by decide +kernel)) (hts (.initialized Bundle.tN) (by decide +kernel)) (hs (.isRef (.static Bundle.tN "UNASSIGNED_STACK" Bundle.steD)) (by decide +kernel)) (fun a h => Nat.not_le.mpr h),
    vx_Zqof (hts (.laysStatic Bundle.tN "SUPPRESSED_SENTINEL" Bundle.listD) (by decide +kernel)) (hts (.initialized Bundle.tN) (by decide +kernel)) (hs (.isRef (.static Bundle.tN "SUPPRESSED_SENTINEL" Bundle.listD)) (by decide +kernel)) (fun a h => Nat.not_le.mpr h)⟩
