/-! crossings, told from the other order, are as many -/
def zl_ind (b : Prop) [Decidable b] : Nat := if b then 1 else 0
theorem zl_sum_perm {α : Type} (f : α → Nat) {L M : List α} (h : L.Perm M) : (L.map f).sum = (M.map f).sum := by
  induction h with
  | nil => rfl
  | cons x _ ih => rw [List.map_cons, List.map_cons, List.sum_cons, List.sum_cons, ih]
  | swap x y l => simp only [List.map_cons, List.sum_cons]; omega
  | trans _ _ ih1 ih2 => exact ih1.trans ih2
theorem zl_sum_add {α : Type} (f g : α → Nat) : ∀ L : List α, (L.map (fun x => f x + g x)).sum = (L.map f).sum + (L.map g).sum
  | [] => rfl
  | x :: L => by
    simp only [List.map_cons, List.sum_cons]
    rw [zl_sum_add f g L]
    omega
theorem zl_sum_0 {α : Type} : ∀ L : List α, (L.map (fun _ => 0)).sum = 0
  | [] => rfl
  | x :: L => by
    simp only [List.map_cons, List.sum_cons]
    rw [zl_sum_0 L]
theorem zl_sum_swap {α β : Type} (f : α → β → Nat) : ∀ (L : List α) (M : List β), (L.map (fun x => (M.map (fun y => f x y)).sum)).sum = (M.map (fun y => (L.map (fun x => f x y)).sum)).sum
  | [], M => (zl_sum_0 M).symm
  | x :: L, M => by
    simp only [List.map_cons, List.sum_cons]
    rw [zl_sum_swap f L M, ← zl_sum_add]
theorem zl_sum_congr {α : Type} {f g : α → Nat} {L : List α} (h : ∀ x ∈ L, f x = g x) : (L.map f).sum = (L.map g).sum := by
  rw [List.map_congr_left h]
/-- what stands ahead of place m -/
theorem zl_sum_take {A : zr_L} (hN : (A.map (·.1)).Nodup) (f : Int32 × Int32 → Nat) (m : Nat) : ((A.take m).map f).sum = (A.map (fun p => if zl_find A p.1 < m then f p else 0)).sum := by
  have h1 : A.map (fun p => if zl_find A p.1 < m then f p else 0) = (A.take m ++ A.drop m).map (fun p => if zl_find A p.1 < m then f p else 0) := by rw [List.take_append_drop]
  rw [h1, List.map_append, List.sum_append]
  have h2 : ((A.take m).map (fun p => if zl_find A p.1 < m then f p else 0)).sum = ((A.take m).map f).sum := by
    refine zl_sum_congr (fun p hp => ?_)
    obtain ⟨i, hi⟩ := List.getElem?_of_mem hp
    have hlt := (List.getElem?_eq_some_iff.mp hi).1
    rw [List.length_take] at hlt
    rw [List.getElem?_take_of_lt (by omega)] at hi
    rw [zl_find_nodup hN hi, if_pos (by omega)]
  have h3 : ((A.drop m).map (fun p => if zl_find A p.1 < m then f p else 0)).sum = 0 := by
    refine (zl_sum_congr (g := fun _ => 0) (fun p hp => ?_)).trans (zl_sum_0 _)
    obtain ⟨i, hi⟩ := List.getElem?_of_mem hp
    rw [List.getElem?_drop] at hi
    rw [zl_find_nodup hN hi, if_neg (by omega)]
  rw [h2, h3, Nat.add_zero]
theorem zl_cr1_take {C A : zr_L} (x : Int32) : ∀ m, m ≤ A.length → zl_cr1 C A x m = ((A.take m).map (fun p => if x < zl_fi C p.1 then 1 else 0)).sum
  | 0, _ => rfl
  | m + 1, h => by
    obtain ⟨q, hq⟩ : ∃ q, A[m]? = some q := ⟨_, List.getElem?_eq_getElem (by omega)⟩
    have e1 : A.take (m + 1) = A.take m ++ [q] := by
      rw [List.take_succ, hq]
      rfl
    rw [e1, List.map_append, List.sum_append, ← zl_cr1_take x m (by omega)]
    show zl_cr1 C A x m + (if x < zl_fi C (zl_at A m) then 1 else 0) = _
    rw [zl_at_some hq]
    simp
theorem zl_cr_take {C A : zr_L} : ∀ m, m ≤ A.length → (hN : (A.map (·.1)).Nodup) → zl_cr C A m = ((A.take m).map (fun q => ((A.take (zl_find A q.1)).map (fun p => if zl_fi C q.1 < zl_fi C p.1 then 1 else 0)).sum)).sum
  | 0, _, _ => rfl
  | m + 1, h, hN => by
    obtain ⟨q, hq⟩ : ∃ q, A[m]? = some q := ⟨_, List.getElem?_eq_getElem (by omega)⟩
    have e1 : A.take (m + 1) = A.take m ++ [q] := by
      rw [List.take_succ, hq]
      rfl
    rw [e1, List.map_append, List.sum_append, ← zl_cr_take m (by omega) hN]
    show zl_cr C A m + zl_cr1 C A (zl_fi C (zl_at A m)) m = _
    rw [zl_at_some hq, zl_cr1_take _ m (by omega)]
    simp [zl_find_nodup hN hq]
theorem zl_cr_eq {C A : zr_L} (hC : C.length ≤ 12) (hNA : (A.map (·.1)).Nodup) (hP : C.Perm A) : zl_cr C A A.length = (A.map (fun q => (A.map (fun p => if zl_find A p.1 < zl_find A q.1 then (if zl_find C q.1 < zl_find C p.1 then 1 else 0) else 0)).sum)).sum := by
  rw [zl_cr_take A.length (Nat.le_refl _) hNA, List.take_length]
  refine zl_sum_congr (fun q hq => ?_)
  rw [zl_sum_take hNA]
  refine zl_sum_congr (fun p hp => ?_)
  have h1 : zl_find C q.1 < C.length := zl_find_mem.mpr (List.mem_map.mpr ⟨q, hP.mem_iff.mpr hq, rfl⟩)
  have h2 : zl_find C p.1 < C.length := zl_find_mem.mpr (List.mem_map.mpr ⟨p, hP.mem_iff.mpr hp, rfl⟩)
  rw [zl_fi_in h1, zl_fi_in h2]
  split
  · by_cases h3 : zl_find C q.1 < zl_find C p.1
    · rw [if_pos h3, if_pos ((nI_ltI (by omega) (by omega)).mpr h3)]
    · rw [if_neg h3, if_neg (fun q => h3 ((nI_ltI (by omega) (by omega)).mp q))]
  · rfl
theorem zl_cr_sym {C A : zr_L} (hC : C.length ≤ 12) (hNC : (C.map (·.1)).Nodup) (hP : C.Perm A) : zl_cr A C C.length = zl_cr C A A.length := by
  have hNA : (A.map (·.1)).Nodup := (hP.map (·.1)).nodup_iff.mp hNC
  rw [zl_cr_eq hC hNA hP, zl_cr_eq (by rw [← hP.length_eq]; exact hC) hNC hP.symm]
  rw [zl_sum_perm _ hP]
  have e1 : ∀ q : Int32 × Int32, (C.map (fun p => if zl_find C p.1 < zl_find C q.1 then (if zl_find A q.1 < zl_find A p.1 then 1 else 0) else 0)).sum = (A.map (fun p => if zl_find C p.1 < zl_find C q.1 then (if zl_find A q.1 < zl_find A p.1 then 1 else 0) else 0)).sum := fun q => zl_sum_perm _ hP
  have e2 : (A.map (fun q : Int32 × Int32 => (C.map (fun p => if zl_find C p.1 < zl_find C q.1 then (if zl_find A q.1 < zl_find A p.1 then 1 else 0) else 0)).sum)).sum = (A.map (fun q : Int32 × Int32 => (A.map (fun p => if zl_find C p.1 < zl_find C q.1 then (if zl_find A q.1 < zl_find A p.1 then 1 else 0) else 0)).sum)).sum := zl_sum_congr (fun q _ => e1 q)
  rw [e2, zl_sum_swap]
  refine zl_sum_congr (fun q _ => zl_sum_congr (fun p _ => ?_))
  by_cases h1 : zl_find C q.1 < zl_find C p.1
  · rw [if_pos h1]
    by_cases h2 : zl_find A p.1 < zl_find A q.1
    · rw [if_pos h2, if_pos h2, if_pos h1]
    · rw [if_neg h2, if_neg h2]
  · rw [if_neg h1]
    split <;> rfl
