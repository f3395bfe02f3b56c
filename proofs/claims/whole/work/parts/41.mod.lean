-- what the reference's store and hear leave of its counts
theorem n_drop_U (S : fm) (s : Nat) : mU (n_drop S s) 35 0 s = mU S 35 0 s - 1 := by
  unfold n_drop
  rw [mU_sJ, mU_sI, mU_same]
theorem n_put_U (S : fm) (s : Nat) (t : Int32) (w : Int64) : mU (n_put S s t w) 35 0 s ≤ mU S 35 0 s + 1 := by
  unfold n_put
  split
  · rw [mU_sJ, mU_sI]; omega
  · rw [mU_sJ, mU_sI, mU_same]; omega
theorem n_put_U16 (S : fm) (s : Nat) (t : Int32) (w : Int64) : mU (n_put S s t w) 16 0 18 = mU S 16 0 18 := by
  unfold n_put
  split
  · rfl
  · rfl
theorem n_store_U16 (x : fy) (S : fm) (s : Nat) (t : Int32) (w : Int64) : mU (n_store x S s t w) 16 0 18 = mU S 16 0 18 := by
  unfold n_store
  split
  · exact n_put_U16 S s t w
  · exact n_put_U16 S s t w
theorem n_store_many (x : fy) (S : fm) (s : Nat) (t : Int32) (w : Int64) (h : mU S 35 0 s ≤ xD x + 1) : mU (n_store x S s t w) 35 0 s ≤ xD x + 1 := by
  have h1 := n_put_U S s t w
  unfold n_store
  split
  next h2 => rw [n_drop_U]; omega
  next h2 => omega
theorem n_hrU_L (S : fm) (c a : Nat) : mL (n_hrU S c a) = mL S - 1 := by
  unfold n_hrU n_hr2
  split <;> rfl
