/-! what holds of a page at all times, and that the operations keep it -/
def zp_mm (S : zp_L) : Nat := S.2.2.1.toNatClampNeg
def zp_J (S : zp_L) : Prop := S.2.2.1 = nI (zp_mm S) ∧ 1 ≤ zp_mm S ∧ zp_mm S ≤ 12 ∧ (S.2.2.2 = 99 ∨ S.2.2.2 = 97) ∧ S.1.length ≤ 12 ∧ S.1.Perm S.2.1 ∧ (S.1.map (·.1)).Nodup ∧ ∀ q ∈ S.1, 0 ≤ q.1.toInt ∧ q.1.toInt ≤ 99
def zp_I (S : zp_L) : Prop := zp_J S ∧ S.1.length ≤ zp_mm S
theorem zl_fo_eq {L : zr_L} (hL : L.length ≤ 12) (key : Int32) : zl_fo L key = if zl_find L key < L.length then some (zl_find L key) else none := zf_ix_i (by omega)
theorem zl_close_eq {L : zr_L} (hL : L.length ≤ 12) (key : Int32) : zl_close L (zl_fo L key) = L.eraseIdx (zl_find L key) := by
  rw [zl_fo_eq hL]
  split
  · rfl
  · rename_i h
    exact (List.eraseIdx_of_length_le (Nat.not_lt.mp h)).symm
theorem zl_erase_filter (key : Int32) : ∀ (L : zr_L), (L.map (·.1)).Nodup → L.eraseIdx (zl_find L key) = L.filter (fun q => !(q.1 == key))
  | [], _ => rfl
  | q :: L, hN => by
    have h2 := List.nodup_cons.mp hN
    unfold zl_find
    rw [List.findIdx_cons, List.filter_cons]
    by_cases h : (q.1 == key) = true
    · rw [h]
      show L = _
      rw [if_neg (by decide)]
      refine (List.filter_eq_self.mpr (fun r hr => ?_)).symm
      have : ¬ r.1 = key := fun e => h2.1 (List.mem_map.mpr ⟨r, hr, e.trans (eq_of_beq h).symm⟩)
      simpa using this
    · have h' : (q.1 == key) = false := by simpa using h
      rw [h']
      show q :: L.eraseIdx (zl_find L key) = _
      rw [zl_erase_filter key L h2.2, if_pos (by rfl)]
theorem zl_give_eq {L : zr_L} (hL : L.length ≤ 12) (key v : Int32) : zl_give L (zl_fo L key) v = L.set (zl_find L key) (key, v) := by
  rw [zl_fo_eq hL]
  split
  · rename_i h
    obtain ⟨q, h1, h2⟩ := zl_find_lt h
    unfold zl_give
    rw [Option.bind_some, h1]
    show L.set (zl_find L key) (q.1, v) = _
    rw [h2]
  · rename_i h
    exact (List.set_eq_of_length_le (Nat.not_lt.mp h)).symm
theorem zl_set_map (key v : Int32) : ∀ (L : zr_L), (L.map (·.1)).Nodup → L.set (zl_find L key) (key, v) = L.map (fun q => if q.1 == key then (q.1, v) else q)
  | [], _ => rfl
  | q :: L, hN => by
    have h2 := List.nodup_cons.mp hN
    unfold zl_find
    rw [List.findIdx_cons, List.map_cons]
    by_cases h : (q.1 == key) = true
    · rw [h]
      show (key, v) :: L = (q.1, v) :: _
      rw [eq_of_beq h]
      congr 1
      refine (List.map_id' L).symm.trans (List.map_congr_left (fun r hr => ?_))
      have : ¬ r.1 = key := fun e => h2.1 (List.mem_map.mpr ⟨r, hr, e.trans (eq_of_beq h).symm⟩)
      have h3 : (r.1 == key) = false := by simpa using this
      rw [h3]
      rfl
    · have h' : (q.1 == key) = false := by simpa using h
      rw [h']
      show q :: L.set (zl_find L key) (key, v) = q :: _
      rw [zl_set_map key v L h2.2]
theorem zl_last_eq {L : zr_L} (hL : L.length ≤ 12) (hN : (L.map (·.1)).Nodup) (key : Int32) : zl_last L (zl_fo L key) = L.filter (fun q => !(q.1 == key)) ++ L.filter (fun q => q.1 == key) := by
  rw [zl_fo_eq hL]
  by_cases h : zl_find L key < L.length
  · rw [if_pos h]
    obtain ⟨q, h1, h2⟩ := zl_find_lt h
    rw [zl_last_some h1, zl_erase_filter key L hN]
    congr 1
    have hm : q ∈ L := List.mem_of_getElem? h1
    subst h2
    clear h1 h
    induction L with
    | nil => cases hm
    | cons r L ih =>
      have h3 := List.nodup_cons.mp hN
      rw [List.filter_cons]
      rcases List.mem_cons.mp hm with rfl | hm'
      · rw [if_pos (by simp)]
        congr 1
        refine (List.filter_eq_nil_iff.mpr (fun r hr => ?_)).symm
        have : ¬ r.1 = q.1 := fun e => h3.1 (List.mem_map.mpr ⟨r, hr, e⟩)
        simpa using this
      · have : ¬ r.1 = q.1 := fun e => h3.1 (List.mem_map.mpr ⟨q, hm', e.symm⟩)
        rw [if_neg (by simpa using this)]
        exact ih (by simp at hL; omega) h3.2 hm'
  · rw [if_neg h]
    show L = _
    have h9 : ∀ r ∈ L, ¬ r.1 = key := fun r hr e => h (zl_find_mem.mpr (by rw [← e]; exact List.mem_map.mpr ⟨r, hr, rfl⟩))
    rw [List.filter_eq_self.mpr (fun r hr => by simpa using h9 r hr), List.filter_eq_nil_iff.mpr (fun r hr => by simpa using h9 r hr), List.append_nil]
theorem zp_J.len {S : zp_L} (h : zp_J S) : S.2.1.length = S.1.length := h.2.2.2.2.2.1.length_eq.symm
theorem zp_J.nodA {S : zp_L} (h : zp_J S) : (S.2.1.map (·.1)).Nodup := (h.2.2.2.2.2.1.map (·.1)).nodup_iff.mp h.2.2.2.2.2.2.1
theorem zp_J.mem {S : zp_L} (h : zp_J S) (key : Int32) : key ∈ S.2.1.map (·.1) ↔ key ∈ S.1.map (·.1) := (h.2.2.2.2.2.1.map (·.1)).mem_iff.symm
theorem zp_J.l12 {S : zp_L} (h : zp_J S) : S.1.length ≤ 12 := h.2.2.2.2.1
theorem zp_J.a12 {S : zp_L} (h : zp_J S) : S.2.1.length ≤ 12 := by rw [h.len]; exact h.l12
theorem zp_take_eq {S : zp_L} (h : zp_J S) (key : Int32) : zp_take S key = (S.1.filter (fun q => !(q.1 == key)), S.2.1.filter (fun q => !(q.1 == key)), S.2.2) := by
  unfold zp_take
  rw [zl_close_eq h.l12, zl_close_eq h.a12, zl_erase_filter key _ h.2.2.2.2.2.2.1, zl_erase_filter key _ h.nodA]
theorem zp_give_eq {S : zp_L} (h : zp_J S) (key v : Int32) : zp_give S key v = (S.1.map (fun q => if q.1 == key then (q.1, v) else q), S.2.1.map (fun q => if q.1 == key then (q.1, v) else q), S.2.2) := by
  unfold zp_give
  rw [zl_give_eq h.l12, zl_give_eq h.a12, zl_set_map key v _ h.2.2.2.2.2.2.1, zl_set_map key v _ h.nodA]
theorem zp_touch_eq {S : zp_L} (h : zp_J S) (key : Int32) : zp_touch S key = (S.1, S.2.1.filter (fun q => !(q.1 == key)) ++ S.2.1.filter (fun q => q.1 == key), S.2.2) := by
  unfold zp_touch
  rw [zl_last_eq h.a12 h.nodA]
theorem zl_map_fst (key v : Int32) (L : zr_L) : (L.map (fun q => if q.1 == key then (q.1, v) else q)).map (·.1) = L.map (·.1) := by
  rw [List.map_map]
  refine List.map_congr_left (fun q _ => ?_)
  show (if q.1 == key then (q.1, v) else q).1 = q.1
  split <;> rfl
theorem zp_J.take {S : zp_L} (h : zp_J S) (key : Int32) : zp_J (zp_take S key) := by
  rw [zp_take_eq h]
  obtain ⟨h1, h2, h3, h4, h5, h6, h7, h8⟩ := h
  refine ⟨h1, h2, h3, h4, Nat.le_trans (List.length_filter_le _ _) h5, h6.filter _, ?_, fun q hq => h8 q ((List.mem_filter.mp hq).1)⟩
  exact List.Pairwise.sublist ((List.filter_sublist (l := S.1)).map (·.1)) h7
theorem zp_take_le (S : zp_L) (h : zp_J S) (key : Int32) : (zp_take S key).1.length ≤ S.1.length := by
  rw [zp_take_eq h]
  exact List.length_filter_le _ _
theorem zp_I.take {S : zp_L} (h : zp_I S) (key : Int32) : zp_I (zp_take S key) := ⟨h.1.take key, Nat.le_trans (zp_take_le S h.1 key) h.2⟩
theorem zp_I.give {S : zp_L} (h : zp_I S) (key v : Int32) : zp_I (zp_give S key v) := by
  obtain ⟨hJ, hm⟩ := h
  rw [zp_give_eq hJ]
  obtain ⟨h1, h2, h3, h4, h5, h6, h7, h8⟩ := hJ
  refine ⟨⟨h1, h2, h3, h4, by rw [List.length_map]; exact h5, h6.map _, by rw [zl_map_fst]; exact h7, fun q hq => ?_⟩, by rw [List.length_map]; exact hm⟩
  obtain ⟨r, hr, rfl⟩ := List.mem_map.mp hq
  have := h8 r hr
  split <;> exact this
theorem zp_I.touch {S : zp_L} (h : zp_I S) (key : Int32) : zp_I (zp_touch S key) := by
  obtain ⟨hJ, hm⟩ := h
  rw [zp_touch_eq hJ]
  obtain ⟨h1, h2, h3, h4, h5, h6, h7, h8⟩ := hJ
  refine ⟨⟨h1, h2, h3, h4, h5, h6.trans ?_, h7, h8⟩, hm⟩
  exact (List.filter_append_perm (fun q => q.1 == key) S.2.1).symm.trans List.perm_append_comm
theorem zp_J.drop {S : zp_L} (h : zp_J S) : zp_J (zp_drop S) := h.take _
theorem zp_row_sub {S : zp_L} (h : zp_J S) (o : Int32) (q : Int32 × Int32) : q ∈ zp_row S o ↔ q ∈ S.1 := by
  unfold zp_row
  split
  · exact h.2.2.2.2.2.1.mem_iff.symm
  · exact Iff.rfl
theorem zp_row_len {S : zp_L} (h : zp_J S) (o : Int32) : (zp_row S o).length = S.1.length := by
  unfold zp_row
  split
  · exact h.len
  · rfl
theorem zl_filter_lt {L : zr_L} {key : Int32} (h : key ∈ L.map (·.1)) : (L.filter (fun q => !(q.1 == key))).length < L.length := by
  obtain ⟨q, h1, h2⟩ := List.mem_map.mp h
  rcases Nat.lt_or_ge (L.filter (fun q => !(q.1 == key))).length L.length with h3 | h3
  · exact h3
  · have h4 : (L.filter (fun q => !(q.1 == key))).length = L.length := Nat.le_antisymm (List.length_filter_le _ _) h3
    have h5 := List.length_filter_eq_length_iff.mp h4 q h1
    rw [h2] at h5
    simp at h5
/-- the key that stands at a place -/
theorem zl_key_mem {L : zr_L} (hL : L.length ≤ 12) {j : Nat} (hj : j < L.length) : zl_key L (zf_ix (nI j) L.length) ∈ L.map (·.1) := by
  rw [zl_key_at hL (List.getElem?_eq_getElem hj)]
  exact List.mem_map.mpr ⟨L[j], List.getElem_mem hj, rfl⟩
theorem zp_first_mem {S : zp_L} (h : zp_J S) (h0 : 0 < S.1.length) : zp_first S ∈ S.1.map (·.1) := by
  have h1 : zp_first S ∈ (zp_row S S.2.2.2).map (·.1) := by
    have := zl_key_mem (L := zp_row S S.2.2.2) (by rw [zp_row_len h]; exact h.l12) (j := 0) (by rw [zp_row_len h]; exact h0)
    rw [nI_0] at this
    exact this
  obtain ⟨q, hq, e⟩ := List.mem_map.mp h1
  exact List.mem_map.mpr ⟨q, (zp_row_sub h _ q).mp hq, e⟩
theorem zp_drop_lt {S : zp_L} (h : zp_J S) (h0 : 0 < S.1.length) : (zp_drop S).1.length < S.1.length := by
  unfold zp_drop
  rw [zp_take_eq h]
  exact zl_filter_lt (zp_first_mem h h0)
theorem zp_drop12 {S : zp_L} (h : zp_J S) : (zp_drop S).1.length < 12 ∧ (zp_drop S).2.1.length < 12 := by
  have h1 : (zp_drop S).1.length < 12 := by
    by_cases h0 : 0 < S.1.length
    · have := zp_drop_lt h h0
      have := h.l12
      omega
    · have := zp_take_le S h (zp_first S)
      show (zp_take S (zp_first S)).1.length < 12
      omega
  exact ⟨h1, by rw [h.drop.len]; exact h1⟩
def zp_gone (S : zp_L) : Int32 := if S.1.length < zp_mm S then -1 else zp_first S
def zp_let (S : zp_L) (key v : Int32) : zp_L := zp_app (if S.1.length < zp_mm S then S else zp_drop S) key v
theorem zp_J.app {S : zp_L} (h : zp_J S) (hl : S.1.length < zp_mm S) {key v : Int32} (hk : key ∉ S.1.map (·.1)) (h0 : 0 ≤ key.toInt ∧ key.toInt ≤ 99) : zp_I (zp_app S key v) := by
  obtain ⟨h1, h2, h3, h4, h5, h6, h7, h8⟩ := h
  refine ⟨⟨h1, h2, h3, h4, ?_, h6.append (List.Perm.refl _), ?_, ?_⟩, ?_⟩
  · show (S.1 ++ [(key, v)]).length ≤ 12
    rw [List.length_append]
    show S.1.length + 1 ≤ 12
    omega
  · show ((S.1 ++ [(key, v)]).map (·.1)).Nodup
    rw [List.map_append]
    exact List.nodup_append.mpr ⟨h7, by simp, fun a ha b hb e => by
      simp at hb
      subst hb
      subst e
      exact hk ha⟩
  · intro q hq
    rcases List.mem_append.mp hq with hq | hq
    · exact h8 q hq
    · rw [List.mem_singleton.mp hq]
      exact h0
  · show (S.1 ++ [(key, v)]).length ≤ zp_mm S
    rw [List.length_append]
    show S.1.length + 1 ≤ zp_mm S
    omega
theorem zp_I.letIn {S : zp_L} (h : zp_I S) {key v : Int32} (hk : key ∉ S.1.map (·.1)) (h0 : 0 ≤ key.toInt ∧ key.toInt ≤ 99) : zp_I (zp_let S key v) := by
  unfold zp_let
  by_cases hl : S.1.length < zp_mm S
  · rw [if_pos hl]
    exact h.1.app hl hk h0
  · rw [if_neg hl]
    have hp : 0 < S.1.length := by have := h.1.2.1; omega
    have h2 := zp_drop_lt h.1 hp
    have hmm : zp_mm (zp_drop S) = zp_mm S := rfl
    refine h.1.drop.app (by rw [hmm]; have := h.2; omega) ?_ h0
    intro hm
    obtain ⟨q, hq, e⟩ := List.mem_map.mp hm
    unfold zp_drop at hq
    rw [zp_take_eq h.1] at hq
    exact hk (List.mem_map.mpr ⟨q, (List.mem_filter.mp hq).1, e⟩)
theorem zp_drops_J {S : zp_L} (h : zp_J S) : ∀ n, zp_J (zp_drops S n)
  | 0 => h
  | n + 1 => zp_drops_J h.drop n
theorem zp_drops_len : ∀ (n : Nat) {S : zp_L}, zp_J S → (zp_drops S n).1.length ≤ S.1.length - n
  | 0, _, _ => Nat.le_refl _
  | n + 1, S, h => by
    have h1 := zp_drops_len n h.drop
    show (zp_drops (zp_drop S) n).1.length ≤ _
    by_cases h0 : 0 < S.1.length
    · have := zp_drop_lt h h0
      omega
    · have : (zp_drop S).1.length ≤ S.1.length := zp_take_le S h _
      omega
theorem zp_drops_mm : ∀ (n : Nat) (S : zp_L), (zp_drops S n).2.2 = S.2.2
  | 0, _ => rfl
  | n + 1, S => zp_drops_mm n (zp_drop S)
theorem zp_each_I (o : Int32) (ee : Nat) : ∀ (t : Nat) {S : zp_L}, zp_I S → zp_I (zp_each o ee t S)
  | 0, _, h => h
  | t + 1, _, h => zp_each_I o ee t (h.take _)
def zp_lim (S : zp_L) (mm : Nat) : zp_L := zp_drops (S.1, S.2.1, nI mm, S.2.2.2) (S.1.length - mm)
theorem zp_mm_nI (C A : zr_L) (by9 : Int32) {mm : Nat} (h : mm ≤ 12) : zp_mm (C, A, nI mm, by9) = mm := nI_clamp (by omega)
theorem zp_I.lim {S : zp_L} (h : zp_I S) {mm : Nat} (h1 : 1 ≤ mm) (h2 : mm ≤ 12) : zp_I (zp_lim S mm) := by
  have hJ : zp_J (S.1, S.2.1, nI mm, S.2.2.2) := by
    obtain ⟨⟨a1, a2, a3, a4, a5, a6, a7, a8⟩, -⟩ := h
    refine ⟨by rw [zp_mm_nI _ _ _ h2], by rw [zp_mm_nI _ _ _ h2]; exact h1, by rw [zp_mm_nI _ _ _ h2]; exact h2, a4, a5, a6, a7, a8⟩
  refine ⟨zp_drops_J hJ _, ?_⟩
  have h3 := zp_drops_len (S.1.length - mm) hJ
  have h4 : zp_mm (zp_lim S mm) = mm := by
    have := zp_drops_mm (S.1.length - mm) (S.1, S.2.1, nI mm, S.2.2.2)
    unfold zp_mm zp_lim
    rw [this]
    exact nI_clamp (by omega)
  rw [h4]
  show (zp_drops (S.1, S.2.1, nI mm, S.2.2.2) (S.1.length - mm)).1.length ≤ mm
  have h5 : ((S.1, S.2.1, nI mm, S.2.2.2) : zp_L).1.length = S.1.length := rfl
  omega
theorem zp_I.way {S : zp_L} (h : zp_I S) {o : Int32} (ho : o = 99 ∨ o = 97) : zp_I (S.1, S.2.1, S.2.2.1, o) := by
  obtain ⟨⟨a1, a2, a3, a4, a5, a6, a7, a8⟩, b⟩ := h
  exact ⟨⟨a1, a2, a3, ho, a5, a6, a7, a8⟩, b⟩
