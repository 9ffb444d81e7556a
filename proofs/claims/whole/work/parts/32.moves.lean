/-! the theorem: the moves lead from one order to the other -/
def zl_play : zr_L → zr_L → zr_L
  | L, [] => L
  | L, q :: M => zl_play (zl_last L (zl_fo L q.1)) M
theorem zl_stay_le (C : zr_L) : ∀ (A : zr_L) (last : Int32), zl_stay C A last ≤ A.length
  | [], _ => Nat.le_refl _
  | q :: A, last => by
    unfold zl_stay
    split
    · exact Nat.zero_le _
    · have := zl_stay_le C A (zl_fi C q.1)
      rw [List.length_cons]
      omega
theorem zl_mem_eq {C : zr_L} (hN : (C.map (·.1)).Nodup) {q r : Int32 × Int32} (hq : q ∈ C) (hr : r ∈ C) (e : q.1 = r.1) : q = r := by
  obtain ⟨i, hi⟩ := List.getElem?_of_mem hq
  obtain ⟨j, hj⟩ := List.getElem?_of_mem hr
  have h1 := zl_find_nodup hN hi
  have h2 := zl_find_nodup hN hj
  rw [e, h2] at h1
  subst h1
  rw [hi] at hj
  exact Option.some.inj hj
/-- what stays is a part of the other order -/
theorem zl_stay_sub {C : zr_L} (hC : C.length ≤ 12) (hN : (C.map (·.1)).Nodup) : ∀ (A : zr_L) (last : Int32) (b : Nat), (∀ q ∈ A, q ∈ C) → (A.map (·.1)).Nodup → ((last = -1 ∧ b = 0) ∨ ∃ i, last = nI i ∧ b = i + 1 ∧ i < C.length ∧ ∀ q ∈ A, ¬ zl_find C q.1 = i) → (A.take (zl_stay C A last)).Sublist (C.drop b)
  | [], _, _, _, _, _ => by simp
  | q :: A, last, b, hA, hAN, hb => by
    have hqC := hA q List.mem_cons_self
    obtain ⟨i, hi⟩ := List.getElem?_of_mem hqC
    have hil := (List.getElem?_eq_some_iff.mp hi).1
    have hf := zl_find_nodup hN hi
    have hfi : zl_fi C q.1 = nI i := zl_fi_at hil hf
    unfold zl_stay
    rw [hfi]
    by_cases hlt : nI i < last
    · rw [if_pos hlt]
      simp
    · rw [if_neg hlt]
      have hbi : b ≤ i := by
        rcases hb with ⟨-, rfl⟩ | ⟨i', e1, rfl, hi', hne⟩
        · exact Nat.zero_le _
        · rw [e1] at hlt
          have h1 : ¬ i < i' := fun q => hlt (nI_lt q (by omega))
          have h2 : ¬ i = i' := fun q9 => hne q List.mem_cons_self (hf.trans q9)
          omega
      have hAN2 := List.nodup_cons.mp hAN
      have ih := zl_stay_sub hC hN A (nI i) (i + 1) (fun r hr => hA r (List.mem_cons_of_mem _ hr)) hAN2.2 (Or.inr ⟨i, rfl, rfl, hil, fun r hr e => hAN2.1 (by
        obtain ⟨i2, hi2⟩ := List.getElem?_of_mem (hA r (List.mem_cons_of_mem _ hr))
        have h3 := zl_find_nodup hN hi2
        rw [e] at h3
        subst h3
        rw [hi] at hi2
        cases hi2
        exact List.mem_map.mpr ⟨q, hr, rfl⟩)⟩)
      rw [List.take_succ_cons]
      refine List.Sublist.trans (List.Sublist.cons_cons q ih) ?_
      have h4 : C.drop i = q :: C.drop (i + 1) := zl_drop_s hi
      rw [← h4]
      have h5 : C.drop i = (C.drop b).drop (i - b) := by rw [List.drop_drop]; congr 1; omega
      rw [h5]
      exact List.drop_sublist _ _
def zl_nin (M : zr_L) (q : Int32 × Int32) : Bool := !(M.map (·.1)).contains q.1
theorem zl_play_eq {C : zr_L} (hC : C.length ≤ 12) (hN : (C.map (·.1)).Nodup) : ∀ (M2 M1 L : zr_L), L = C.filter (zl_nin M1) ++ M1 → (∀ q ∈ M1 ++ M2, q ∈ C) → ((M1 ++ M2).map (·.1)).Nodup → L.length ≤ 12 → (L.map (·.1)).Nodup → zl_play L M2 = C.filter (zl_nin (M1 ++ M2)) ++ (M1 ++ M2)
  | [], M1, L, hL, _, _, _, _ => by
    rw [List.append_nil]
    exact hL
  | q :: M2, M1, L, hL, hm, hnd, hl12, hLN => by
    have e1 : M1 ++ q :: M2 = (M1 ++ [q]) ++ M2 := by simp
    have hqC : q ∈ C := hm q (by simp)
    have hqM1 : ∀ r ∈ M1, ¬ r.1 = q.1 := by
      intro r hr e
      rw [List.map_append, List.map_cons] at hnd
      exact (List.nodup_append.mp hnd).2.2 r.1 (List.mem_map.mpr ⟨r, hr, rfl⟩) q.1 (by simp) e
    have hlast : zl_last L (zl_fo L q.1) = C.filter (zl_nin (M1 ++ [q])) ++ (M1 ++ [q]) := by
      rw [zl_last_eq hl12 hLN, hL, List.filter_append, List.filter_append]
      have f1 : M1.filter (fun r => !(r.1 == q.1)) = M1 := List.filter_eq_self.mpr (fun r hr => by simpa using hqM1 r hr)
      have f2 : M1.filter (fun r => r.1 == q.1) = [] := List.filter_eq_nil_iff.mpr (fun r hr => by simpa using hqM1 r hr)
      have f3 : (C.filter (zl_nin M1)).filter (fun r => !(r.1 == q.1)) = C.filter (zl_nin (M1 ++ [q])) := by
        rw [List.filter_filter]
        refine List.filter_congr (fun r _ => ?_)
        unfold zl_nin
        have e3 : (r.1 == q.1) = decide (r.1 = q.1) := rfl
        simp only [List.contains_eq_mem, List.map_append, List.map_cons, List.map_nil, List.mem_append, List.mem_singleton, Bool.decide_or, Bool.not_or, e3]
        exact Bool.and_comm _ _
      have f4 : (C.filter (zl_nin M1)).filter (fun r => r.1 == q.1) = [q] := by
        rw [List.filter_filter]
        have : C.filter (fun r => (r.1 == q.1) && zl_nin M1 r) = C.filter (fun r => r.1 == q.1) := by
          refine List.filter_congr (fun r _ => ?_)
          by_cases e : r.1 = q.1
          · have : zl_nin M1 r = true := by
              unfold zl_nin
              simp only [Bool.not_eq_true', List.contains_eq_mem, decide_eq_false_iff_not, List.mem_map, not_exists, not_and]
              intro z hz e2
              exact hqM1 z hz (e2.trans e)
            rw [this, Bool.and_true]
          · have : (r.1 == q.1) = false := by simpa using e
            rw [this]
            rfl
        rw [this]
        clear this f3 f1 f2 hL hl12 hLN hm hnd hqM1 e1
        induction C with
        | nil => cases hqC
        | cons r C ih =>
          have h3 := List.nodup_cons.mp hN
          rw [List.filter_cons]
          rcases List.mem_cons.mp hqC with rfl | hm'
          · rw [if_pos (by simp)]
            congr 1
            refine List.filter_eq_nil_iff.mpr (fun r hr => ?_)
            have : ¬ r.1 = q.1 := fun e => h3.1 (List.mem_map.mpr ⟨r, hr, e⟩)
            simpa using this
          · have : ¬ r.1 = q.1 := fun e => h3.1 (List.mem_map.mpr ⟨q, hm', e.symm⟩)
            rw [if_neg (by simpa using this)]
            exact ih (by simp at hC; omega) h3.2 hm'
      rw [f1, f2, f3, f4, List.append_nil, List.append_assoc]
    have hlen : (zl_last L (zl_fo L q.1)).length = L.length := by
      rw [zl_last_eq hl12 hLN, List.length_append]
      have := (List.filter_append_perm (fun r => r.1 == q.1) L).length_eq
      rw [List.length_append] at this
      omega
    have hperm : (zl_last L (zl_fo L q.1)).Perm L := by
      rw [zl_last_eq hl12 hLN]
      exact List.perm_append_comm.trans (List.filter_append_perm (fun r => r.1 == q.1) L)
    show zl_play (zl_last L (zl_fo L q.1)) M2 = _
    rw [e1]
    refine zl_play_eq hC hN M2 (M1 ++ [q]) _ hlast (by rw [← e1]; exact hm) (by rw [← e1]; exact hnd) (by rw [hlen]; exact hl12) ?_
    exact (hperm.map (·.1)).nodup_iff.mpr hLN
theorem zl_theorem {C A : zr_L} (hC : C.length ≤ 12) (hN : (C.map (·.1)).Nodup) (hP : C.Perm A) : zl_play C (A.drop (zl_stay C A (-1))) = A := by
  have hAN : (A.map (·.1)).Nodup := (hP.map (·.1)).nodup_iff.mp hN
  generalize hst : zl_stay C A (-1) = st
  have hsub : (A.take st).Sublist (C.drop 0) := by
    rw [← hst]
    exact zl_stay_sub hC hN A (-1) 0 (fun q hq => hP.mem_iff.mpr hq) hAN (Or.inl ⟨rfl, rfl⟩)
  rw [List.drop_zero] at hsub
  have hsplit : A.take st ++ A.drop st = A := List.take_append_drop st A
  have hPM : ∀ q ∈ A.take st, zl_nin (A.drop st) q = true := by
    intro q hq
    unfold zl_nin
    simp only [Bool.not_eq_true', List.contains_eq_mem, decide_eq_false_iff_not, List.mem_map, not_exists, not_and]
    intro r hr e
    rw [← hsplit, List.map_append] at hAN
    exact (List.nodup_append.mp hAN).2.2 q.1 (List.mem_map.mpr ⟨q, hq, rfl⟩) r.1 (List.mem_map.mpr ⟨r, hr, rfl⟩) e.symm
  have h1 : (A.take st).Sublist (C.filter (zl_nin (A.drop st))) := by
    have := hsub.filter (zl_nin (A.drop st))
    rwa [List.filter_eq_self.mpr hPM] at this
  have h2 : (C.filter (zl_nin (A.drop st))).length = (A.take st).length := by
    have h3 := (hP.filter (zl_nin (A.drop st))).length_eq
    rw [h3, ← hsplit, List.filter_append]
    have h4 : (A.take st).filter (zl_nin (A.drop st)) = A.take st := List.filter_eq_self.mpr hPM
    have h5 : (A.drop st).filter (zl_nin (A.drop st)) = [] := by
      refine List.filter_eq_nil_iff.mpr (fun q hq => ?_)
      unfold zl_nin
      simp only [Bool.not_eq_true', List.contains_eq_mem, decide_eq_false_iff_not, Classical.not_not]
      exact List.mem_map.mpr ⟨q, hq, rfl⟩
    rw [hsplit, h4, h5, List.append_nil]
  have h3 : A.take st = C.filter (zl_nin (A.drop st)) := h1.eq_of_length h2.symm
  have h4 := zl_play_eq hC hN (A.drop st) [] C (by rw [List.append_nil]; exact (List.filter_eq_self.mpr (fun _ _ => rfl)).symm) (fun q hq => hP.mem_iff.mpr (List.mem_of_mem_drop hq)) (by
    rw [List.nil_append]
    exact List.Pairwise.sublist ((List.drop_sublist st A).map (·.1)) hAN) hC hN
  rw [h4, List.nil_append, ← h3, hsplit]
