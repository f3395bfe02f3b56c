-- the register's methods on the memory
def q_cl (z : Int32) : Bool := !decide (z < 0) && !decide (5 ≤ z)
def q_sv (x : fy) (z : Int32) : Bool := !decide (z < 0) && !decide (nI (xN x) ≤ z)
theorem q_cl_of {z : Int32} (h : q_cl z = true) : ∃ c, c < 5 ∧ z = nI c := by
  unfold q_cl at h
  simp only [Bool.and_eq_true, Bool.not_eq_true', decide_eq_false_iff_not] at h
  rcases pk_ix z (n := 5) (by decide) with h1 | h1 | h1
  · exact absurd h1 h.1
  · exact absurd h1 h.2
  · exact h1
theorem q_cl_in {c : Nat} (h : c < 5) : q_cl (nI c) = true := by
  unfold q_cl
  simp only [Bool.and_eq_true, Bool.not_eq_true', decide_eq_false_iff_not]
  exact ⟨nI_pos (by omega), fun q => by have := (nI_leI (a := 5) (by decide) (by omega)).mp q; omega⟩
theorem q_sv_of {x : fy} {z : Int32} (hO : fO x) (h : q_sv x z = true) : ∃ s, s < xN x ∧ z = nI s := by
  unfold q_sv at h
  have hN : xN x ≤ 7 := hO.2.2.2.1
  simp only [Bool.and_eq_true, Bool.not_eq_true', decide_eq_false_iff_not] at h
  rcases pk_ix z (n := xN x) (by omega) with h1 | h1 | h1
  · exact absurd h1 h.1
  · exact absurd h1 h.2
  · exact h1
theorem q_sv_in {x : fy} {s : Nat} (hO : fO x) (h : s < xN x) : q_sv x (nI s) = true := by
  unfold q_sv
  have hN : xN x ≤ 7 := hO.2.2.2.1
  simp only [Bool.and_eq_true, Bool.not_eq_true', decide_eq_false_iff_not]
  exact ⟨nI_pos (by omega), fun q => by have := (nI_leI (a := xN x) (by omega) (by omega)).mp q; omega⟩
theorem row_lt {c s N : Nat} (hc : c < 5) (hs : s < N) : c * N + s < 5 * N := by
  have : c * N ≤ 4 * N := Nat.mul_le_mul_right N (by omega)
  omega
def fL (x : fy) : Prop := fv x 0 0 ∧ fv x 1 0 ∧ fv x 2 0 ∧ fv x 3 0 ∧ fv x 4 0 ∧ fv x 5 0 ∧ fv x 6 0 ∧ (∀ c, c < 5 → fv x 7 c ∧ fv x 8 c ∧ fv x 9 c) ∧ (∀ s, s < xN x → fv x 10 s ∧ fv x 11 s ∧ fv x 12 s) ∧ (∀ r, r < 5 * xN x → fv x 13 r ∧ fv x 14 r ∧ fv x 13 (100 + r) ∧ fv x 14 (100 + r))
/-- what every walk needs of the memory -/
def fI (x : fy) (S : fm) : Prop := (∀ r, mU S 13 r 1 ≤ 7) ∧ (∀ r q, q < mU S 13 r 1 → ∃ b, mA S 14 r q = some b ∧ fvL x S b) ∧ (∀ s, mU S 10 s 3 ≤ xD x + 1) ∧ (∀ c, mU S 7 c 3 ≤ 7) ∧ (∀ c j, mU S 8 c j < 7)
def q_refuse (x : fy) (S : fm) (c : Nat) : Int32 := if mB S 7 c 4 = true then -2 else if q_work S c = true then -3 else if q_crowd x S c = true then -4 else 0
def e_write (x : fy) (S : fm) (c : Nat) (w : Int64) : fm := if q_refuse x S c = 0 then e_begin x (sJ S 7 c 10 w) c 1 else S
def e_read (x : fy) (S : fm) (c : Nat) : fm := if q_refuse x S c = 0 then e_begin x S c 4 else S
def q_again (x : fy) (S : fm) (c : Nat) : Int32 := if mB S 7 c 4 = true then -2 else if ¬ mI S 7 c 5 = 5 ∨ mI S 7 c 7 < nI (xQ x) then -3 else if q_crowd x S c = true then -4 else 0
def e_again (x : fy) (S : fm) (c : Nat) : fm := if q_again x S c = 0 then e_begin x S c 4 else S
def q_enough (x : fy) (S : fm) (c : Nat) : Bool := !decide (mI S 7 c 7 < nI (xQ x)) && (decide (¬ mI S 7 c 5 = 5) || decide (mU S 7 c 3 = xK x))
def e_end (x : fy) (S : fm) (c : Nat) : fm :=
  if mI S 7 c 5 = 1 then e_begin x (sI S 7 c 9 (8 * (mI S 7 c 8 / 8 + 1) + nI c)) c 2
  else if mI S 7 c 5 = 2 then e_begin x S c 3
  else if mI S 7 c 5 = 4 then e_begin x (sI S 7 c 9 (mI S 7 c 8)) c 5
  else if mI S 7 c 5 = 5 then e_finish (sJ (rU S 2 0 (decU x S c (xR x))) 7 c 11 (decW x S c (xR x))) c
  else e_finish S c
def q_end (S : fm) (c : Nat) : Int32 := if mI S 7 c 5 = 1 ∨ mI S 7 c 5 = 2 ∨ mI S 7 c 5 = 4 then 2 else 3
def e_deliver (x : fy) (S : fm) (c s j a : Nat) : fm := e_app (e_answer x (e_take S (c * xN x + s) j) s a) (100 + (c * xN x + s)) a
def e_crs (x : fy) (S : fm) (s : Nat) : Nat → fm
  | 0 => S
  | c + 1 => e_lose (e_crs x S s c) (c * xN x + s)
def e_crash (x : fy) (S : fm) (s : Nat) : fm := e_crs x (sI (sB S 10 s 5 true) 0 0 7 (mI S 0 0 7 + 1)) s 5
theorem e_app_le (S : fm) (r a : Nat) (h : ∀ r, mU S 13 r 1 ≤ 7) : ∀ q, mU (e_app S r a) 13 q 1 ≤ 7 := by
  intro q
  unfold e_app
  split
  next h1 =>
    rw [mU_sU]
    split
    · omega
    · exact h q
  next => exact h q
theorem e_req_U (x : fy) (S : fm) (c s : Nat) : mU (e_req x S c s) = mU S := by
  unfold e_req
  split <;> rfl
theorem e_bgs_le (x : fy) (S : fm) (c : Nat) (h : ∀ r, mU S 13 r 1 ≤ 7) : ∀ n r, mU (e_bgs x S c n) 13 r 1 ≤ 7 := by
  intro n
  induction n with
  | zero => exact h
  | succ n ih =>
    show ∀ r, mU (e_bg1 x (e_bgs x S c n) c n) 13 r 1 ≤ 7
    unfold e_bg1
    split
    · exact ih
    · exact e_app_le _ _ _ (fun r => by rw [e_req_U]; exact ih r)
