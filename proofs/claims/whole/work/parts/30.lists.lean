-- lists out of rows of the memory
def mk {α : Type} (f : Nat → α) (n : Nat) : List α := (List.range n).map f
theorem mk_len {α : Type} (f : Nat → α) (n : Nat) : (mk f n).length = n := by simp [mk]
theorem mk_get {α : Type} (f : Nat → α) (n j : Nat) : (mk f n)[j]? = if j < n then some (f j) else none := by
  unfold mk
  rw [List.getElem?_map]
  by_cases h : j < n
  · rw [if_pos h, List.getElem?_range h]; rfl
  · rw [if_neg h, List.getElem?_eq_none (by simp; omega)]; rfl
theorem mk_congr {α : Type} {f g : Nat → α} {n : Nat} (h : ∀ j, j < n → f j = g j) : mk f n = mk g n := by
  apply List.ext_getElem?
  intro j
  rw [mk_get, mk_get]
  by_cases hj : j < n
  · rw [if_pos hj, if_pos hj, h j hj]
  · rw [if_neg hj, if_neg hj]
theorem mk_succ {α : Type} (f : Nat → α) (n : Nat) : mk f (n + 1) = mk f n ++ [f n] := by simp [mk, List.range_succ]
theorem mk_snoc {α : Type} (f : Nat → α) (n : Nat) (v : α) : mk (va_up f n v) (n + 1) = mk f n ++ [v] := by
  rw [mk_succ, show va_up f n v n = v from if_pos rfl]
  congr 1
  exact mk_congr (fun j hj => if_neg (by omega))
theorem mk_erase {α : Type} (f : Nat → α) {n j : Nat} (hj : j < n) : mk (tkA f j (n - 1)) (n - 1) = (mk f n).eraseIdx j := by
  apply List.ext_getElem?
  intro i
  rw [mk_get, List.getElem?_eraseIdx, mk_get, mk_get]
  unfold tkA
  by_cases h1 : i < j
  · simp [h1, show i < n - 1 by omega, show i < n by omega, show ¬ j ≤ i by omega]
  · rw [if_neg h1]
    by_cases h2 : i < n - 1
    · simp [h2, show i + 1 < n by omega, show j ≤ i by omega]
    · simp [h2, show ¬ i + 1 < n by omega]
theorem mk_mem {α : Type} {f : Nat → α} {n : Nat} {v : α} : v ∈ mk f n ↔ ∃ j, j < n ∧ f j = v := by
  unfold mk
  simp [List.mem_map, List.mem_range]
/-- an element that doesn't count is taken out -/
theorem fl_no {α : Type} (p : α → Bool) : ∀ (l : List α) (i : Nat) (v : α), l[i]? = some v → p v = false → (l.eraseIdx i).filter p = l.filter p := by
  intro l
  induction l with
  | nil => intro i v h; simp at h
  | cons a l ih =>
    intro i v h hp
    cases i with
    | zero =>
      simp at h
      subst h
      simp [hp]
    | succ i =>
      simp at h
      simp only [List.eraseIdx_cons_succ, List.filter_cons]
      rw [ih i v h hp]
/-- one that counts -/
theorem fl_yes {α : Type} (p : α → Bool) : ∀ (l : List α) (i : Nat) (v : α), l[i]? = some v → p v = true → (l.eraseIdx i).filter p = (l.filter p).eraseIdx ((l.take i).filter p).length ∧ (l.filter p)[((l.take i).filter p).length]? = some v := by
  intro l
  induction l with
  | nil => intro i v h; simp at h
  | cons a l ih =>
    intro i v h hp
    cases i with
    | zero =>
      simp at h
      subst h
      simp [hp]
    | succ i =>
      simp at h
      obtain ⟨h1, h2⟩ := ih i v h hp
      simp only [List.eraseIdx_cons_succ, List.filter_cons, List.take_succ_cons]
      by_cases ha : p a = true
      · simp [ha, h1, h2]
      · simp [ha, h1, h2]
/-- the j-th that counts is somewhere -/
theorem fl_find {α : Type} (p : α → Bool) : ∀ (l : List α) (j : Nat), j < (l.filter p).length → ∃ i v, l[i]? = some v ∧ p v = true ∧ ((l.take i).filter p).length = j := by
  intro l
  induction l with
  | nil => intro j h; simp at h
  | cons a l ih =>
    intro j h
    by_cases ha : p a = true
    · cases j with
      | zero => exact ⟨0, a, by simp, ha, by simp⟩
      | succ j =>
        simp [ha] at h
        obtain ⟨i, v, h1, h2, h3⟩ := ih j h
        exact ⟨i + 1, v, by simpa using h1, h2, by simp [ha, h3]⟩
    · simp [ha] at h
      obtain ⟨i, v, h1, h2, h3⟩ := ih j h
      exact ⟨i + 1, v, by simpa using h1, h2, by simp [ha, h3]⟩
theorem fl_le {α : Type} (p : α → Bool) (l : List α) (i : Nat) : ((l.take i).filter p).length ≤ (l.filter p).length := by
  have h : (l.take i ++ l.drop i).filter p = l.filter p := by rw [List.take_append_drop]
  rw [← h, List.filter_append, List.length_append]
  omega
theorem mk_take {α : Type} (f : Nat → α) {n i : Nat} (h : i ≤ n) : (mk f n).take i = mk f i := by
  apply List.ext_getElem?
  intro j
  rw [List.getElem?_take, mk_get, mk_get]
  by_cases hj : j < i
  · rw [if_pos hj, if_pos hj, if_pos (by omega)]
  · rw [if_neg hj, if_neg hj]
