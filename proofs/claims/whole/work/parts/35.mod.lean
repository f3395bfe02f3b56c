-- the reference's layout, and small rows
def fM (x : fy) : Prop := fv x 16 0 ∧ fv x 23 0 ∧ fv x 24 0 ∧ fv x 25 0 ∧ fv x 26 0 ∧ fv x 27 0 ∧ fv x 28 0 ∧ fv x 29 0 ∧ fv x 30 0 ∧ fv x 31 0 ∧ fv x 32 0 ∧ fv x 33 0 ∧ fv x 34 0 ∧ fv x 35 0 ∧ fv x 36 0 ∧ fv x 37 0 ∧ fv x 39 0 ∧ fv x 40 0 ∧ fv x 41 0 ∧ fv x 42 0 ∧ fv x 43 0 ∧ fv x 44 0 ∧ fv x 45 0 ∧ fv x 46 0
theorem q_le4 (z : Int32) : z ≤ 4 ↔ ¬ (5 : Int32) ≤ z := by
  rw [Int32.le_iff_toInt_le, Int32.le_iff_toInt_le, show (4 : Int32).toInt = 4 by decide, show (5 : Int32).toInt = 5 by decide]
  omega
theorem b2_inj {a b : Bool} : b2 a = b2 b ↔ a = b := by cases a <;> cases b <;> decide
theorem n_quo (x : fy) (hO : fO x) : nI (xN x) - (nI (xN x) - nI (xK x)) / 2 = nI (xQ x) := by
  have h1 : xK x ≤ xN x := by have := hO; unfold fO at this; omega
  have h2 : xN x ≤ 7 := hO.2.2.2.1
  rw [pk_sub h1, show (2 : Int32) = nI 2 from rfl, pk_div (by omega) (by omega) (by omega), pk_sub (by omega)]
  rfl
theorem n_half (x : fy) (hO : fO x) : (nI (xN x) - nI (xK x)) / 2 = nI (xM x) := by
  have h1 : xK x ≤ xN x := by have := hO; unfold fO at this; omega
  have h2 : xN x ≤ 7 := hO.2.2.2.1
  rw [pk_sub h1, show (2 : Int32) = nI 2 from rfl, pk_div (by omega) (by omega) (by omega)]
  rfl
theorem u2_comm {α : Type} (F : Nat → Nat → Nat → α) {k i a b : Nat} (f g : Nat → α) (h : ¬ (a = k ∧ b = i)) : u2 (u2 F k i f) a b g = u2 (u2 F a b g) k i f := by
  funext p q
  unfold u2
  by_cases h1 : p = a ∧ q = b
  · rw [if_pos h1, if_neg (fun h2 => h ⟨h1.1.symm.trans h2.1, h1.2.symm.trans h2.2⟩), if_pos h1]
  · rw [if_neg h1]
    by_cases h2 : p = k ∧ q = i
    · rw [if_pos h2, if_pos h2]
    · rw [if_neg h2, if_neg h2, if_neg h1]
theorem sI_ne (S : fm) {k i a b : Nat} (f : Nat → Int32) (j : Nat) (v : Int32) (h : ¬ (a = k ∧ b = i)) : sI (rI S k i f) a b j v = rI (sI S a b j v) k i f := by
  unfold sI
  rw [show mI (rI S k i f) a b = mI S a b from u2_n h]
  show (u2 (u2 S.1 k i f) a b _, _) = (u2 (u2 S.1 a b _) k i f, _)
  rw [u2_comm _ _ _ h]
  rfl
theorem sB_ne (S : fm) {k i a b : Nat} (f : Nat → Bool) (j : Nat) (v : Bool) (h : ¬ (a = k ∧ b = i)) : sB (rB S k i f) a b j v = rB (sB S a b j v) k i f := by
  unfold sB
  rw [show mB (rB S k i f) a b = mB S a b from u2_n h]
  show (_, _, u2 (u2 S.2.2.1 k i f) a b _, _) = (_, _, u2 (u2 S.2.2.1 a b _) k i f, _)
  rw [u2_comm _ _ _ h]
  rfl
theorem n_shift_0 (S : fm) (a : Nat) : n_shift S a a = S := by
  simp only [n_shift, tkA_0, rB_self, rI_self, rJ_self]
theorem n_shift_step (S : fm) (a i : Nat) (h : a ≤ i) (T : fm) (hT : T = n_shift S a i) :
    sJ (sI (sI (sI (sI (sI (sB (sB T 39 0 i (mB T 39 0 (i + 1))) 40 0 i (mB T 40 0 (i + 1))) 41 0 i (mI T 41 0 (i + 1))) 42 0 i (mI T 42 0 (i + 1))) 43 0 i (mI T 43 0 (i + 1))) 44 0 i (mI T 44 0 (i + 1))) 45 0 i (mI T 45 0 (i + 1))) 46 0 i (mJ T 46 0 (i + 1)) = n_shift S a (i + 1) := by
  have e1 : mB T 39 0 (i + 1) = mB S 39 0 (i + 1) := by rw [hT]; exact tkA_at _ _ _
  have e2 : mB T 40 0 (i + 1) = mB S 40 0 (i + 1) := by rw [hT]; exact tkA_at _ _ _
  have e3 : mI T 41 0 (i + 1) = mI S 41 0 (i + 1) := by rw [hT]; exact tkA_at _ _ _
  have e4 : mI T 42 0 (i + 1) = mI S 42 0 (i + 1) := by rw [hT]; exact tkA_at _ _ _
  have e5 : mI T 43 0 (i + 1) = mI S 43 0 (i + 1) := by rw [hT]; exact tkA_at _ _ _
  have e6 : mI T 44 0 (i + 1) = mI S 44 0 (i + 1) := by rw [hT]; exact tkA_at _ _ _
  have e7 : mI T 45 0 (i + 1) = mI S 45 0 (i + 1) := by rw [hT]; exact tkA_at _ _ _
  have e8 : mJ T 46 0 (i + 1) = mJ S 46 0 (i + 1) := by rw [hT]; exact tkA_at _ _ _
  rw [e1, e2, e3, e4, e5, e6, e7, e8, hT]
  unfold n_shift
  simp only [sB_rJ, sB_rI, sI_rJ, sI_rB]
  rw [sB_ne _ _ _ _ (by decide : ¬ (39 = 40 ∧ 0 = 0)), sB_rB, sB_rB]
  simp only [sI_ne _ _ _ _ (by decide : ¬ (41 = 45 ∧ 0 = 0)), sI_ne _ _ _ _ (by decide : ¬ (41 = 44 ∧ 0 = 0)), sI_ne _ _ _ _ (by decide : ¬ (41 = 43 ∧ 0 = 0)), sI_ne _ _ _ _ (by decide : ¬ (41 = 42 ∧ 0 = 0)), sI_ne _ _ _ _ (by decide : ¬ (42 = 45 ∧ 0 = 0)), sI_ne _ _ _ _ (by decide : ¬ (42 = 44 ∧ 0 = 0)), sI_ne _ _ _ _ (by decide : ¬ (42 = 43 ∧ 0 = 0)), sI_ne _ _ _ _ (by decide : ¬ (43 = 45 ∧ 0 = 0)), sI_ne _ _ _ _ (by decide : ¬ (43 = 44 ∧ 0 = 0)), sI_ne _ _ _ _ (by decide : ¬ (44 = 45 ∧ 0 = 0)), sI_rI, sJ_rJ, tkA_step _ _ _ h]
theorem n_match_t {S : fm} {b : Bool} {c s i : Nat} (h1 : mB S 39 0 i = b) (h2 : mI S 41 0 i = nI c) (h3 : mI S 42 0 i = nI s) : n_match S b c s i = true := by
  unfold n_match
  rw [h1, h2, h3]
  simp
theorem n_match_f {S : fm} {b : Bool} {c s i : Nat} (h : ¬ mB S 39 0 i = b ∨ ¬ mI S 41 0 i = nI c ∨ ¬ mI S 42 0 i = nI s) : n_match S b c s i = false := by
  unfold n_match
  rcases h with h | h | h <;> simp [h]
theorem n_cnt_t {S : fm} {b : Bool} {c s i : Nat} (h : n_match S b c s i = true) : n_cnt S b c s (i + 1) = n_cnt S b c s i + 1 := by show (if _ then _ else _) = _; rw [if_pos h]
theorem n_cnt_f {S : fm} {b : Bool} {c s i : Nat} (h : n_match S b c s i = false) : n_cnt S b c s (i + 1) = n_cnt S b c s i := by show (if _ then _ else _) = _; rw [if_neg (by rw [h]; decide)]
theorem n_cnt_le (S : fm) (b : Bool) (c s : Nat) : ∀ n, n_cnt S b c s n ≤ n := by
  intro n
  induction n with
  | zero => exact Nat.le_refl _
  | succ n ih =>
    rw [show n_cnt S b c s (n + 1) = if n_match S b c s n = true then n_cnt S b c s n + 1 else n_cnt S b c s n from rfl]
    split <;> omega
theorem any_succ (p : Nat → Bool) (i : Nat) : (List.range (i + 1)).any p = ((List.range i).any p || p i) := by
  rw [List.range_succ, List.any_append]
  simp
theorem n_low_le (f : Nat → Int32) (b : Nat) : ∀ n, b ≤ n_low f b n ∧ n_low f b n ≤ b + (n - 1) := by
  intro n
  induction n with
  | zero => exact ⟨Nat.le_refl _, by simp [n_low]⟩
  | succ n ih =>
    rw [show n_low f b (n + 1) = if f (b + n) < f (n_low f b n) then b + n else n_low f b n from rfl]
    split <;> omega
