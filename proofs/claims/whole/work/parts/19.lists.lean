/-! rows of entries as lists, and how an array holds one -/
abbrev zr_D : Type := Nat × (Nat → Int32) × (Nat → Int32)
abbrev zr_L : Type := List (Int32 × Int32)
def zr_W (i : Nat) (d : zr_D) : List zw_E := [.inr (2, [.ref (i + 1), .ref (i + 2), .int (nI d.1)]), .inl (0, 12, .inl d.2.1), .inl (0, 12, .inl d.2.2)]
def zr_R (L : zr_L) (d : zr_D) : Prop := d.1 = L.length ∧ L.length ≤ 12 ∧ ∀ (i : Nat) (q : Int32 × Int32), L[i]? = some q → d.2.1 i = q.1 ∧ d.2.2 i = q.2
def zz (n : Nat) : Nat := n
def zf_b (b : Bool) : Int32 := if b then 1 else 0
/-- a place told by an int -/
def zf_ix (p : Int32) (n : Nat) : Option Nat := if 0 ≤ p.toInt ∧ p.toInt < n then some p.toInt.toNat else none
theorem zf_ix_neg {p : Int32} (n : Nat) (h : p < 0) : zf_ix p n = none := by
  have h1 := Int32.lt_iff_toInt_lt.mp h
  rw [Int32.toInt_zero] at h1
  unfold zf_ix
  rw [if_neg]
  omega
theorem zf_ix_big {p : Int32} {n : Nat} (hn : n < 2 ^ 31) (h : nI n ≤ p) : zf_ix p n = none := by
  have h1 := Int32.le_iff_toInt_le.mp h
  rw [nI_toInt hn] at h1
  unfold zf_ix
  rw [if_neg]
  omega
theorem zf_ix_nI {j n : Nat} (hj : j < 2 ^ 31) : zf_ix (nI j) n = if j < n then some j else none := by
  unfold zf_ix
  rw [nI_toInt hj]
  by_cases h : j < n
  · rw [if_pos ⟨by omega, by omega⟩, if_pos h]; rfl
  · rw [if_neg (by omega), if_neg h]
theorem zf_ix_cases (p : Int32) {n : Nat} (hn : n < 2 ^ 31) : (p < 0 ∧ zf_ix p n = none) ∨ (¬ p < 0 ∧ nI n ≤ p ∧ zf_ix p n = none) ∨ ∃ j : Nat, j < n ∧ p = nI j ∧ zf_ix p n = some j := by
  by_cases h0 : p < 0
  · exact Or.inl ⟨h0, zf_ix_neg n h0⟩
  · rcases pk_ix p hn with h | h | ⟨j, hj, rfl⟩
    · exact absurd h h0
    · exact Or.inr (Or.inl ⟨h0, h, zf_ix_big hn h⟩)
    · exact Or.inr (Or.inr ⟨j, hj, rfl, by rw [zf_ix_nI (by omega), if_pos hj]⟩)
theorem zf_ix_m1 (n : Nat) : zf_ix (-1) n = none := zf_ix_neg n (by decide)
/-- a place, or -1 -/
def zf_i (i n : Nat) : Int32 := if i < n then nI i else -1
theorem zf_ix_i {i n : Nat} (hn : n < 2 ^ 31) : zf_ix (zf_i i n) n = if i < n then some i else none := by
  unfold zf_i
  by_cases h : i < n
  · rw [if_pos h, zf_ix_nI (by omega)]
  · rw [if_neg h, if_neg h, zf_ix_m1]
theorem zf_i_m1 {i n : Nat} (hn : n < 2 ^ 31) : zf_i i n = -1 ↔ ¬ i < n := by
  unfold zf_i
  by_cases h : i < n
  · rw [if_pos h]
    constructor
    · intro q
      have := nI_pos (n := i) (by omega)
      rw [q] at this
      exact absurd (by decide) this
    · intro q; exact absurd h q
  · rw [if_neg h]; exact ⟨fun _ => h, fun _ => rfl⟩
/-- what stands at a place -/
def zl_key (L : zr_L) (o : Option Nat) : Int32 := match o.bind (fun j => L[j]?) with
  | some q => q.1
  | none => -1
def zl_val (L : zr_L) (o : Option Nat) : Int32 := match o.bind (fun j => L[j]?) with
  | some q => q.2
  | none => 0
/-- where a key stands first; the length if nowhere -/
def zl_find (L : zr_L) (key : Int32) : Nat := L.findIdx (fun q => q.1 == key)
def zl_fi (L : zr_L) (key : Int32) : Int32 := zf_i (zl_find L key) L.length
def zl_give (L : zr_L) (o : Option Nat) (v : Int32) : zr_L := match o.bind (fun j => (L[j]?).map (fun q => (j, q))) with
  | some (j, q) => L.set j (q.1, v)
  | none => L
def zl_close (L : zr_L) (o : Option Nat) : zr_L := match o with
  | some j => L.eraseIdx j
  | none => L
def zl_last (L : zr_L) (o : Option Nat) : zr_L := match o.bind (fun j => (L[j]?).map (fun q => (j, q))) with
  | some (j, q) => L.eraseIdx j ++ [q]
  | none => L
theorem zr_R.at {L : zr_L} {d : zr_D} (h : zr_R L d) {i : Nat} (hi : i < d.1) : ∃ q, L[i]? = some q ∧ d.2.1 i = q.1 ∧ d.2.2 i = q.2 := by
  have hl : i < L.length := by rw [← h.1]; exact hi
  exact ⟨L[i], List.getElem?_eq_getElem hl, h.2.2 i _ (List.getElem?_eq_getElem hl)⟩
theorem zl_find_at {L : zr_L} {key : Int32} {j : Nat} {q : Int32 × Int32} (hj : L[j]? = some q) (hq : q.1 = key) (h : ∀ (i : Nat) (r : Int32 × Int32), i < j → L[i]? = some r → ¬ r.1 = key) : zl_find L key = j := by
  unfold zl_find
  have hjl : j < L.length := (List.getElem?_eq_some_iff.mp hj).1
  have hq' : L[j] = q := (List.getElem?_eq_some_iff.mp hj).2
  rw [List.findIdx_eq hjl]
  refine ⟨by rw [hq']; simpa using hq, fun i hi => ?_⟩
  have := h i L[i] hi (List.getElem?_eq_getElem (by omega))
  simpa using this
theorem zl_find_none {L : zr_L} {key : Int32} (h : ∀ (i : Nat) (r : Int32 × Int32), L[i]? = some r → ¬ r.1 = key) : zl_find L key = L.length := by
  unfold zl_find
  rw [List.findIdx_eq_length]
  intro q hq
  obtain ⟨i, hi⟩ := List.getElem?_of_mem hq
  simpa using h i q hi
theorem zl_find_le (L : zr_L) (key : Int32) : zl_find L key ≤ L.length := List.findIdx_le_length
theorem zl_find_lt {L : zr_L} {key : Int32} (h : zl_find L key < L.length) : ∃ q, L[zl_find L key]? = some q ∧ q.1 = key := by
  refine ⟨L[zl_find L key], List.getElem?_eq_getElem h, ?_⟩
  have := List.findIdx_getElem (xs := L) (p := fun (q : Int32 × Int32) => q.1 == key) (w := h)
  exact eq_of_beq this
theorem zl_find_mem {L : zr_L} {key : Int32} : zl_find L key < L.length ↔ key ∈ L.map (·.1) := by
  constructor
  · intro h
    obtain ⟨q, h1, h2⟩ := zl_find_lt h
    exact List.mem_map.mpr ⟨q, List.mem_of_getElem? h1, h2⟩
  · intro h
    obtain ⟨q, h1, h2⟩ := List.mem_map.mp h
    exact List.findIdx_lt_length_of_exists ⟨q, h1, by simpa using h2⟩
/-- the array f, but from p to q each place holds the next one's -/
def zf_sh (f : Nat → Int32) (p q : Nat) : Nat → Int32 := fun i => if p ≤ i ∧ i < q then f (i + 1) else f i
theorem zf_sh_0 (f : Nat → Int32) (p : Nat) : zf_sh f p p = f := by
  funext i
  unfold zf_sh
  rw [if_neg (by omega)]
theorem zf_sh_s (f : Nat → Int32) {p q : Nat} (h : p ≤ q) : upd (zf_sh f p q) q (zf_sh f p q (q + 1)) = zf_sh f p (q + 1) := by
  funext i
  unfold upd zf_sh
  by_cases e : i = q
  · subst e
    rw [if_pos rfl, if_neg (by omega), if_pos ⟨h, by omega⟩]
  · rw [if_neg e]
    by_cases h1 : p ≤ i ∧ i < q
    · rw [if_pos h1, if_pos ⟨h1.1, by omega⟩]
    · rw [if_neg h1, if_neg (by omega)]
theorem zr_R.close {L : zr_L} {d : zr_D} (h : zr_R L d) {p : Nat} (hp : p < d.1) : zr_R (L.eraseIdx p) (d.1 - 1, zf_sh d.2.1 p (d.1 - 1), zf_sh d.2.2 p (d.1 - 1)) := by
  obtain ⟨h1, h2, h3⟩ := h
  have hl : (L.eraseIdx p).length = L.length - 1 := by rw [List.length_eraseIdx, if_pos (by omega)]
  refine ⟨by rw [hl, h1], by omega, fun i q hq => ?_⟩
  have hil : i < L.length - 1 := by rw [← hl]; exact (List.getElem?_eq_some_iff.mp hq).1
  rw [List.getElem?_eraseIdx] at hq
  show zf_sh d.2.1 p (d.1 - 1) i = _ ∧ zf_sh d.2.2 p (d.1 - 1) i = _
  unfold zf_sh
  by_cases hi : i < p
  · rw [if_pos hi] at hq
    rw [if_neg (by omega), if_neg (by omega)]
    exact h3 i q hq
  · rw [if_neg hi] at hq
    rw [if_pos (by omega), if_pos (by omega)]
    exact h3 (i + 1) q hq
theorem zr_R.append {L : zr_L} {d : zr_D} (h : zr_R L d) (hl : d.1 < 12) (k v : Int32) : zr_R (L ++ [(k, v)]) (d.1 + 1, upd d.2.1 d.1 k, upd d.2.2 d.1 v) := by
  obtain ⟨h1, h2, h3⟩ := h
  refine ⟨by simp [h1], by simp; omega, fun i q hq => ?_⟩
  show upd d.2.1 d.1 k i = _ ∧ upd d.2.2 d.1 v i = _
  unfold upd
  rw [List.getElem?_append] at hq
  by_cases hi : i < L.length
  · rw [if_pos hi] at hq
    rw [if_neg (by omega), if_neg (by omega)]
    exact h3 i q hq
  · rw [if_neg hi] at hq
    have hz : i - L.length < 1 := (List.getElem?_eq_some_iff.mp hq).1
    have : i = d.1 := by omega
    subst this
    rw [if_pos rfl, if_pos rfl]
    rw [show d.1 - L.length = 0 by omega] at hq
    cases hq
    exact ⟨rfl, rfl⟩
theorem zr_R.give {L : zr_L} {d : zr_D} (h : zr_R L d) {p : Nat} (hp : p < d.1) (v : Int32) : zr_R (zl_give L (some p) v) (d.1, d.2.1, upd d.2.2 p v) := by
  obtain ⟨h1, h2, h3⟩ := h
  have hpl : p < L.length := by omega
  have e : zl_give L (some p) v = L.set p ((L[p]).1, v) := by
    unfold zl_give
    rw [Option.bind_some, List.getElem?_eq_getElem hpl]
    rfl
  rw [e]
  refine ⟨by rw [List.length_set]; exact h1, by rw [List.length_set]; exact h2, fun i q hq => ?_⟩
  show d.2.1 i = _ ∧ upd d.2.2 p v i = _
  unfold upd
  rw [List.getElem?_set] at hq
  by_cases e : p = i
  · subst e
    rw [if_pos rfl, if_pos hpl] at hq
    cases hq
    rw [if_pos rfl]
    exact ⟨(h3 p _ (List.getElem?_eq_getElem hpl)).1, rfl⟩
  · rw [if_neg e] at hq
    rw [if_neg (fun q => e q.symm)]
    exact h3 i q hq
theorem zr_R.take {L : zr_L} {d : zr_D} (h : zr_R L d) : d.1 < 2 ^ 31 := by
  have := h.1
  have := h.2.1
  omega
