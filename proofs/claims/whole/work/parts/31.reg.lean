-- what the walks of the larger methods need of the memory between their calls
def q_hr (x : fy) (S : fm) (c s j a : Nat) : Int32 := if q_counts (e_take S (100 + (c * xN x + s)) j) c a = true then (if q_enough x (e_hear x (e_take S (100 + (c * xN x + s)) j) c a s) c = true then q_end (e_hear x (e_take S (100 + (c * xN x + s)) j) c a s) c else 1) else 0
def e_hr (x : fy) (S : fm) (c s j a : Nat) : fm := if q_counts (e_take S (100 + (c * xN x + s)) j) c a = true then (if q_enough x (e_hear x (e_take S (100 + (c * xN x + s)) j) c a s) c = true then e_end x (e_hear x (e_take S (100 + (c * xN x + s)) j) c a s) c else e_hear x (e_take S (100 + (c * xN x + s)) j) c a s) else e_take S (100 + (c * xN x + s)) j
def q_crash (x : fy) (S : fm) (s : Nat) : Bool := !mB S 10 s 5 && decide (mI S 0 0 7 < nI (xM x))
def q_frag (S : fm) (s : Nat) (t : Int32) (r : Nat) : Int32 := match q_place S s t with
  | some i => bI (by8 (mJ S 12 s i) r)
  | none => -1
theorem e_take_le (S : fm) (r j : Nat) (h : ∀ q, mU S 13 q 1 ≤ 7) : ∀ q, mU (e_take S r j) 13 q 1 ≤ 7 := by
  intro q
  unfold e_take
  rw [mU_rA, mU_sU]
  split
  · have := h r; omega
  · exact h q
theorem e_hear1_U (S : fm) (c a : Nat) : mU (e_hear1 S c a) = mU S := rfl
theorem e_hear_U13 (x : fy) (S : fm) (c a s q : Nat) : mU (e_hear x S c a s) 13 q 1 = mU S 13 q 1 := by
  unfold e_hear
  split
  · unfold e_hear2
    rw [mU_sU, if_neg (by omega), mU_sJ, mU_sU, if_neg (by omega), e_hear1_U]
  · rfl
theorem e_hear_fc (x : fy) (S : fm) (c a s : Nat) (hK : xK x ≤ 7) (h : mU S 7 c 3 ≤ 7) : mU (e_hear x S c a s) 7 c 3 ≤ 7 := by
  unfold e_hear
  split
  next h1 =>
    unfold e_hear2
    rw [mU_sU, if_pos ⟨rfl, rfl, rfl⟩, e_hear1_U]
    omega
  next => exact h
theorem e_hear_src (x : fy) (S : fm) (c a s j : Nat) (hs : s < 7) (h : mU S 8 c j < 7) : mU (e_hear x S c a s) 8 c j < 7 := by
  unfold e_hear
  split
  · unfold e_hear2
    rw [mU_sU, if_neg (by omega), mU_sJ, mU_sU]
    split
    · exact hs
    · exact h
  · exact h
theorem e_answer_U13 (x : fy) (S : fm) (s a : Nat) : mU (e_answer x S s a) 13 = mU S 13 := by
  unfold e_answer
  split
  · rfl
  · split
    · rfl
    · split
      · unfold e_encl
        split <;> rfl
      · rfl
theorem e_answer_Z (x : fy) (S : fm) (s a : Nat) : mZ (e_answer x S s a) = mZ S := by
  unfold e_answer
  split
  · rfl
  · split
    · rfl
    · split
      · unfold e_encl
        split <;> rfl
      · rfl
theorem e_lose_Z (S : fm) (r : Nat) : mZ (e_lose S r) = mZ S := rfl
