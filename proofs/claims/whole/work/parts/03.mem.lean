-- printed by wip/whole/gen/mem.py: the typed memory of program and reference, the layout of addresses, the cells, the world
abbrev fm : Type := (Nat → Nat → Nat → Int32) × (Nat → Nat → Nat → Int64) × (Nat → Nat → Nat → Bool) × (Nat → Nat → Nat → Option Nat) × (Nat → Nat → Nat → Nat) × Nat
def mI (S : fm) : Nat → Nat → Nat → Int32 := S.1
def mJ (S : fm) : Nat → Nat → Nat → Int64 := S.2.1
def mB (S : fm) : Nat → Nat → Nat → Bool := S.2.2.1
def mA (S : fm) : Nat → Nat → Nat → Option Nat := S.2.2.2.1
def mU (S : fm) : Nat → Nat → Nat → Nat := S.2.2.2.2.1
def mZ (S : fm) : Nat := S.2.2.2.2.2
def u2 {α : Type} (f : Nat → Nat → Nat → α) (k i : Nat) (r : Nat → α) : Nat → Nat → Nat → α := fun a b => if a = k ∧ b = i then r else f a b
theorem u2_s {α : Type} {f : Nat → Nat → Nat → α} {k i : Nat} {r : Nat → α} : u2 f k i r k i = r := if_pos ⟨rfl, rfl⟩
theorem u2_n {α : Type} {f : Nat → Nat → Nat → α} {k i a b : Nat} {r : Nat → α} (h : ¬ (a = k ∧ b = i)) : u2 f k i r a b = f a b := if_neg h
def rI (S : fm) (k i : Nat) (r : Nat → Int32) : fm := (u2 S.1 k i r, S.2.1, S.2.2.1, S.2.2.2.1, S.2.2.2.2.1, S.2.2.2.2.2)
def rJ (S : fm) (k i : Nat) (r : Nat → Int64) : fm := (S.1, u2 S.2.1 k i r, S.2.2.1, S.2.2.2.1, S.2.2.2.2.1, S.2.2.2.2.2)
def rB (S : fm) (k i : Nat) (r : Nat → Bool) : fm := (S.1, S.2.1, u2 S.2.2.1 k i r, S.2.2.2.1, S.2.2.2.2.1, S.2.2.2.2.2)
def rA (S : fm) (k i : Nat) (r : Nat → Option Nat) : fm := (S.1, S.2.1, S.2.2.1, u2 S.2.2.2.1 k i r, S.2.2.2.2.1, S.2.2.2.2.2)
def rU (S : fm) (k i : Nat) (r : Nat → Nat) : fm := (S.1, S.2.1, S.2.2.1, S.2.2.2.1, u2 S.2.2.2.2.1 k i r, S.2.2.2.2.2)
def rZ (S : fm) (n : Nat) : fm := (S.1, S.2.1, S.2.2.1, S.2.2.2.1, S.2.2.2.2.1, n)
def sI (S : fm) (k i j : Nat) (v : Int32) : fm := rI S k i (va_up (mI S k i) j v)
def sJ (S : fm) (k i j : Nat) (v : Int64) : fm := rJ S k i (va_up (mJ S k i) j v)
def sB (S : fm) (k i j : Nat) (v : Bool) : fm := rB S k i (va_up (mB S k i) j v)
def sA (S : fm) (k i j : Nat) (v : Option Nat) : fm := rA S k i (va_up (mA S k i) j v)
def sU (S : fm) (k i j : Nat) (v : Nat) : fm := rU S k i (va_up (mU S k i) j v)
theorem mI_rI (S : fm) (k i : Nat) (r : Nat → Int32) (a b : Nat) : mI (rI S k i r) a b = if a = k ∧ b = i then r else mI S a b := rfl
theorem mI_sI (S : fm) (k i j : Nat) (v : Int32) (a b d : Nat) : mI (sI S k i j v) a b d = if a = k ∧ b = i ∧ d = j then v else mI S a b d := by
  show (if a = k ∧ b = i then va_up (mI S k i) j v else mI S a b) d = _
  by_cases h : a = k ∧ b = i
  · obtain ⟨rfl, rfl⟩ := h
    by_cases hj : d = j <;> simp [va_up, hj]
  · rw [if_neg h, if_neg (fun q => h ⟨q.1, q.2.1⟩)]
theorem mI_rJ (S : fm) (k i : Nat) (r : Nat → Int64) : mI (rJ S k i r) = mI S := rfl
theorem mI_sJ (S : fm) (k i j : Nat) (v : Int64) : mI (sJ S k i j v) = mI S := rfl
theorem mI_rB (S : fm) (k i : Nat) (r : Nat → Bool) : mI (rB S k i r) = mI S := rfl
theorem mI_sB (S : fm) (k i j : Nat) (v : Bool) : mI (sB S k i j v) = mI S := rfl
theorem mI_rA (S : fm) (k i : Nat) (r : Nat → Option Nat) : mI (rA S k i r) = mI S := rfl
theorem mI_sA (S : fm) (k i j : Nat) (v : Option Nat) : mI (sA S k i j v) = mI S := rfl
theorem mI_rU (S : fm) (k i : Nat) (r : Nat → Nat) : mI (rU S k i r) = mI S := rfl
theorem mI_sU (S : fm) (k i j : Nat) (v : Nat) : mI (sU S k i j v) = mI S := rfl
theorem mI_rZ (S : fm) (n : Nat) : mI (rZ S n) = mI S := rfl
theorem mJ_rI (S : fm) (k i : Nat) (r : Nat → Int32) : mJ (rI S k i r) = mJ S := rfl
theorem mJ_sI (S : fm) (k i j : Nat) (v : Int32) : mJ (sI S k i j v) = mJ S := rfl
theorem mJ_rJ (S : fm) (k i : Nat) (r : Nat → Int64) (a b : Nat) : mJ (rJ S k i r) a b = if a = k ∧ b = i then r else mJ S a b := rfl
theorem mJ_sJ (S : fm) (k i j : Nat) (v : Int64) (a b d : Nat) : mJ (sJ S k i j v) a b d = if a = k ∧ b = i ∧ d = j then v else mJ S a b d := by
  show (if a = k ∧ b = i then va_up (mJ S k i) j v else mJ S a b) d = _
  by_cases h : a = k ∧ b = i
  · obtain ⟨rfl, rfl⟩ := h
    by_cases hj : d = j <;> simp [va_up, hj]
  · rw [if_neg h, if_neg (fun q => h ⟨q.1, q.2.1⟩)]
theorem mJ_rB (S : fm) (k i : Nat) (r : Nat → Bool) : mJ (rB S k i r) = mJ S := rfl
theorem mJ_sB (S : fm) (k i j : Nat) (v : Bool) : mJ (sB S k i j v) = mJ S := rfl
theorem mJ_rA (S : fm) (k i : Nat) (r : Nat → Option Nat) : mJ (rA S k i r) = mJ S := rfl
theorem mJ_sA (S : fm) (k i j : Nat) (v : Option Nat) : mJ (sA S k i j v) = mJ S := rfl
theorem mJ_rU (S : fm) (k i : Nat) (r : Nat → Nat) : mJ (rU S k i r) = mJ S := rfl
theorem mJ_sU (S : fm) (k i j : Nat) (v : Nat) : mJ (sU S k i j v) = mJ S := rfl
theorem mJ_rZ (S : fm) (n : Nat) : mJ (rZ S n) = mJ S := rfl
theorem mB_rI (S : fm) (k i : Nat) (r : Nat → Int32) : mB (rI S k i r) = mB S := rfl
theorem mB_sI (S : fm) (k i j : Nat) (v : Int32) : mB (sI S k i j v) = mB S := rfl
theorem mB_rJ (S : fm) (k i : Nat) (r : Nat → Int64) : mB (rJ S k i r) = mB S := rfl
theorem mB_sJ (S : fm) (k i j : Nat) (v : Int64) : mB (sJ S k i j v) = mB S := rfl
theorem mB_rB (S : fm) (k i : Nat) (r : Nat → Bool) (a b : Nat) : mB (rB S k i r) a b = if a = k ∧ b = i then r else mB S a b := rfl
theorem mB_sB (S : fm) (k i j : Nat) (v : Bool) (a b d : Nat) : mB (sB S k i j v) a b d = if a = k ∧ b = i ∧ d = j then v else mB S a b d := by
  show (if a = k ∧ b = i then va_up (mB S k i) j v else mB S a b) d = _
  by_cases h : a = k ∧ b = i
  · obtain ⟨rfl, rfl⟩ := h
    by_cases hj : d = j <;> simp [va_up, hj]
  · rw [if_neg h, if_neg (fun q => h ⟨q.1, q.2.1⟩)]
theorem mB_rA (S : fm) (k i : Nat) (r : Nat → Option Nat) : mB (rA S k i r) = mB S := rfl
theorem mB_sA (S : fm) (k i j : Nat) (v : Option Nat) : mB (sA S k i j v) = mB S := rfl
theorem mB_rU (S : fm) (k i : Nat) (r : Nat → Nat) : mB (rU S k i r) = mB S := rfl
theorem mB_sU (S : fm) (k i j : Nat) (v : Nat) : mB (sU S k i j v) = mB S := rfl
theorem mB_rZ (S : fm) (n : Nat) : mB (rZ S n) = mB S := rfl
theorem mA_rI (S : fm) (k i : Nat) (r : Nat → Int32) : mA (rI S k i r) = mA S := rfl
theorem mA_sI (S : fm) (k i j : Nat) (v : Int32) : mA (sI S k i j v) = mA S := rfl
theorem mA_rJ (S : fm) (k i : Nat) (r : Nat → Int64) : mA (rJ S k i r) = mA S := rfl
theorem mA_sJ (S : fm) (k i j : Nat) (v : Int64) : mA (sJ S k i j v) = mA S := rfl
theorem mA_rB (S : fm) (k i : Nat) (r : Nat → Bool) : mA (rB S k i r) = mA S := rfl
theorem mA_sB (S : fm) (k i j : Nat) (v : Bool) : mA (sB S k i j v) = mA S := rfl
theorem mA_rA (S : fm) (k i : Nat) (r : Nat → Option Nat) (a b : Nat) : mA (rA S k i r) a b = if a = k ∧ b = i then r else mA S a b := rfl
theorem mA_sA (S : fm) (k i j : Nat) (v : Option Nat) (a b d : Nat) : mA (sA S k i j v) a b d = if a = k ∧ b = i ∧ d = j then v else mA S a b d := by
  show (if a = k ∧ b = i then va_up (mA S k i) j v else mA S a b) d = _
  by_cases h : a = k ∧ b = i
  · obtain ⟨rfl, rfl⟩ := h
    by_cases hj : d = j <;> simp [va_up, hj]
  · rw [if_neg h, if_neg (fun q => h ⟨q.1, q.2.1⟩)]
theorem mA_rU (S : fm) (k i : Nat) (r : Nat → Nat) : mA (rU S k i r) = mA S := rfl
theorem mA_sU (S : fm) (k i j : Nat) (v : Nat) : mA (sU S k i j v) = mA S := rfl
theorem mA_rZ (S : fm) (n : Nat) : mA (rZ S n) = mA S := rfl
theorem mU_rI (S : fm) (k i : Nat) (r : Nat → Int32) : mU (rI S k i r) = mU S := rfl
theorem mU_sI (S : fm) (k i j : Nat) (v : Int32) : mU (sI S k i j v) = mU S := rfl
theorem mU_rJ (S : fm) (k i : Nat) (r : Nat → Int64) : mU (rJ S k i r) = mU S := rfl
theorem mU_sJ (S : fm) (k i j : Nat) (v : Int64) : mU (sJ S k i j v) = mU S := rfl
theorem mU_rB (S : fm) (k i : Nat) (r : Nat → Bool) : mU (rB S k i r) = mU S := rfl
theorem mU_sB (S : fm) (k i j : Nat) (v : Bool) : mU (sB S k i j v) = mU S := rfl
theorem mU_rA (S : fm) (k i : Nat) (r : Nat → Option Nat) : mU (rA S k i r) = mU S := rfl
theorem mU_sA (S : fm) (k i j : Nat) (v : Option Nat) : mU (sA S k i j v) = mU S := rfl
theorem mU_rU (S : fm) (k i : Nat) (r : Nat → Nat) (a b : Nat) : mU (rU S k i r) a b = if a = k ∧ b = i then r else mU S a b := rfl
theorem mU_sU (S : fm) (k i j : Nat) (v : Nat) (a b d : Nat) : mU (sU S k i j v) a b d = if a = k ∧ b = i ∧ d = j then v else mU S a b d := by
  show (if a = k ∧ b = i then va_up (mU S k i) j v else mU S a b) d = _
  by_cases h : a = k ∧ b = i
  · obtain ⟨rfl, rfl⟩ := h
    by_cases hj : d = j <;> simp [va_up, hj]
  · rw [if_neg h, if_neg (fun q => h ⟨q.1, q.2.1⟩)]
theorem mU_rZ (S : fm) (n : Nat) : mU (rZ S n) = mU S := rfl
theorem mZ_rI (S : fm) (k i : Nat) (r : Nat → Int32) : mZ (rI S k i r) = mZ S := rfl
theorem mZ_sI (S : fm) (k i j : Nat) (v : Int32) : mZ (sI S k i j v) = mZ S := rfl
theorem mZ_rJ (S : fm) (k i : Nat) (r : Nat → Int64) : mZ (rJ S k i r) = mZ S := rfl
theorem mZ_sJ (S : fm) (k i j : Nat) (v : Int64) : mZ (sJ S k i j v) = mZ S := rfl
theorem mZ_rB (S : fm) (k i : Nat) (r : Nat → Bool) : mZ (rB S k i r) = mZ S := rfl
theorem mZ_sB (S : fm) (k i j : Nat) (v : Bool) : mZ (sB S k i j v) = mZ S := rfl
theorem mZ_rA (S : fm) (k i : Nat) (r : Nat → Option Nat) : mZ (rA S k i r) = mZ S := rfl
theorem mZ_sA (S : fm) (k i j : Nat) (v : Option Nat) : mZ (sA S k i j v) = mZ S := rfl
theorem mZ_rU (S : fm) (k i : Nat) (r : Nat → Nat) : mZ (rU S k i r) = mZ S := rfl
theorem mZ_sU (S : fm) (k i j : Nat) (v : Nat) : mZ (sU S k i j v) = mZ S := rfl
theorem mZ_rZ (S : fm) (n : Nat) : mZ (rZ S n) = n := rfl
theorem rI_rI (S : fm) (k i : Nat) (f g : Nat → Int32) : rI (rI S k i f) k i g = rI S k i g := by
  have h : u2 (u2 S.1 k i f) k i g = u2 S.1 k i g := by funext a b; unfold u2; split <;> rfl
  show (u2 (u2 S.1 k i f) k i g, S.2.1, S.2.2.1, S.2.2.2.1, S.2.2.2.2.1, S.2.2.2.2.2) = _
  rw [h]; rfl
theorem sI_rI (S : fm) (k i j : Nat) (f : Nat → Int32) (v : Int32) : sI (rI S k i f) k i j v = rI S k i (va_up f j v) := by
  unfold sI; rw [rI_rI, show mI (rI S k i f) k i = f from u2_s]
theorem rJ_rJ (S : fm) (k i : Nat) (f g : Nat → Int64) : rJ (rJ S k i f) k i g = rJ S k i g := by
  have h : u2 (u2 S.2.1 k i f) k i g = u2 S.2.1 k i g := by funext a b; unfold u2; split <;> rfl
  show (S.1, u2 (u2 S.2.1 k i f) k i g, S.2.2.1, S.2.2.2.1, S.2.2.2.2.1, S.2.2.2.2.2) = _
  rw [h]; rfl
theorem sJ_rJ (S : fm) (k i j : Nat) (f : Nat → Int64) (v : Int64) : sJ (rJ S k i f) k i j v = rJ S k i (va_up f j v) := by
  unfold sJ; rw [rJ_rJ, show mJ (rJ S k i f) k i = f from u2_s]
theorem rB_rB (S : fm) (k i : Nat) (f g : Nat → Bool) : rB (rB S k i f) k i g = rB S k i g := by
  have h : u2 (u2 S.2.2.1 k i f) k i g = u2 S.2.2.1 k i g := by funext a b; unfold u2; split <;> rfl
  show (S.1, S.2.1, u2 (u2 S.2.2.1 k i f) k i g, S.2.2.2.1, S.2.2.2.2.1, S.2.2.2.2.2) = _
  rw [h]; rfl
theorem sB_rB (S : fm) (k i j : Nat) (f : Nat → Bool) (v : Bool) : sB (rB S k i f) k i j v = rB S k i (va_up f j v) := by
  unfold sB; rw [rB_rB, show mB (rB S k i f) k i = f from u2_s]
theorem rA_rA (S : fm) (k i : Nat) (f g : Nat → Option Nat) : rA (rA S k i f) k i g = rA S k i g := by
  have h : u2 (u2 S.2.2.2.1 k i f) k i g = u2 S.2.2.2.1 k i g := by funext a b; unfold u2; split <;> rfl
  show (S.1, S.2.1, S.2.2.1, u2 (u2 S.2.2.2.1 k i f) k i g, S.2.2.2.2.1, S.2.2.2.2.2) = _
  rw [h]; rfl
theorem sA_rA (S : fm) (k i j : Nat) (f : Nat → Option Nat) (v : Option Nat) : sA (rA S k i f) k i j v = rA S k i (va_up f j v) := by
  unfold sA; rw [rA_rA, show mA (rA S k i f) k i = f from u2_s]
theorem rU_rU (S : fm) (k i : Nat) (f g : Nat → Nat) : rU (rU S k i f) k i g = rU S k i g := by
  have h : u2 (u2 S.2.2.2.2.1 k i f) k i g = u2 S.2.2.2.2.1 k i g := by funext a b; unfold u2; split <;> rfl
  show (S.1, S.2.1, S.2.2.1, S.2.2.2.1, u2 (u2 S.2.2.2.2.1 k i f) k i g, S.2.2.2.2.2) = _
  rw [h]; rfl
theorem sU_rU (S : fm) (k i j : Nat) (f : Nat → Nat) (v : Nat) : sU (rU S k i f) k i j v = rU S k i (va_up f j v) := by
  unfold sU; rw [rU_rU, show mU (rU S k i f) k i = f from u2_s]
theorem rI_self (S : fm) (k i : Nat) : rI S k i (mI S k i) = S := by
  have h : u2 S.1 k i (mI S k i) = S.1 := by
    funext a b
    unfold u2
    by_cases h : a = k ∧ b = i
    · rw [if_pos h, h.1, h.2]; rfl
    · rw [if_neg h]
  show (u2 S.1 k i (mI S k i), S.2.1, S.2.2.1, S.2.2.2.1, S.2.2.2.2.1, S.2.2.2.2.2) = _
  rw [h]
theorem sI_rJ (S : fm) (k i a b j : Nat) (f : Nat → Int64) (v : Int32) : sI (rJ S k i f) a b j v = rJ (sI S a b j v) k i f := rfl
theorem sI_rB (S : fm) (k i a b j : Nat) (f : Nat → Bool) (v : Int32) : sI (rB S k i f) a b j v = rB (sI S a b j v) k i f := rfl
theorem sI_rA (S : fm) (k i a b j : Nat) (f : Nat → Option Nat) (v : Int32) : sI (rA S k i f) a b j v = rA (sI S a b j v) k i f := rfl
theorem sI_rU (S : fm) (k i a b j : Nat) (f : Nat → Nat) (v : Int32) : sI (rU S k i f) a b j v = rU (sI S a b j v) k i f := rfl
theorem rJ_self (S : fm) (k i : Nat) : rJ S k i (mJ S k i) = S := by
  have h : u2 S.2.1 k i (mJ S k i) = S.2.1 := by
    funext a b
    unfold u2
    by_cases h : a = k ∧ b = i
    · rw [if_pos h, h.1, h.2]; rfl
    · rw [if_neg h]
  show (S.1, u2 S.2.1 k i (mJ S k i), S.2.2.1, S.2.2.2.1, S.2.2.2.2.1, S.2.2.2.2.2) = _
  rw [h]
theorem sJ_rI (S : fm) (k i a b j : Nat) (f : Nat → Int32) (v : Int64) : sJ (rI S k i f) a b j v = rI (sJ S a b j v) k i f := rfl
theorem sJ_rB (S : fm) (k i a b j : Nat) (f : Nat → Bool) (v : Int64) : sJ (rB S k i f) a b j v = rB (sJ S a b j v) k i f := rfl
theorem sJ_rA (S : fm) (k i a b j : Nat) (f : Nat → Option Nat) (v : Int64) : sJ (rA S k i f) a b j v = rA (sJ S a b j v) k i f := rfl
theorem sJ_rU (S : fm) (k i a b j : Nat) (f : Nat → Nat) (v : Int64) : sJ (rU S k i f) a b j v = rU (sJ S a b j v) k i f := rfl
theorem rB_self (S : fm) (k i : Nat) : rB S k i (mB S k i) = S := by
  have h : u2 S.2.2.1 k i (mB S k i) = S.2.2.1 := by
    funext a b
    unfold u2
    by_cases h : a = k ∧ b = i
    · rw [if_pos h, h.1, h.2]; rfl
    · rw [if_neg h]
  show (S.1, S.2.1, u2 S.2.2.1 k i (mB S k i), S.2.2.2.1, S.2.2.2.2.1, S.2.2.2.2.2) = _
  rw [h]
theorem sB_rI (S : fm) (k i a b j : Nat) (f : Nat → Int32) (v : Bool) : sB (rI S k i f) a b j v = rI (sB S a b j v) k i f := rfl
theorem sB_rJ (S : fm) (k i a b j : Nat) (f : Nat → Int64) (v : Bool) : sB (rJ S k i f) a b j v = rJ (sB S a b j v) k i f := rfl
theorem sB_rA (S : fm) (k i a b j : Nat) (f : Nat → Option Nat) (v : Bool) : sB (rA S k i f) a b j v = rA (sB S a b j v) k i f := rfl
theorem sB_rU (S : fm) (k i a b j : Nat) (f : Nat → Nat) (v : Bool) : sB (rU S k i f) a b j v = rU (sB S a b j v) k i f := rfl
theorem rA_self (S : fm) (k i : Nat) : rA S k i (mA S k i) = S := by
  have h : u2 S.2.2.2.1 k i (mA S k i) = S.2.2.2.1 := by
    funext a b
    unfold u2
    by_cases h : a = k ∧ b = i
    · rw [if_pos h, h.1, h.2]; rfl
    · rw [if_neg h]
  show (S.1, S.2.1, S.2.2.1, u2 S.2.2.2.1 k i (mA S k i), S.2.2.2.2.1, S.2.2.2.2.2) = _
  rw [h]
theorem sA_rI (S : fm) (k i a b j : Nat) (f : Nat → Int32) (v : Option Nat) : sA (rI S k i f) a b j v = rI (sA S a b j v) k i f := rfl
theorem sA_rJ (S : fm) (k i a b j : Nat) (f : Nat → Int64) (v : Option Nat) : sA (rJ S k i f) a b j v = rJ (sA S a b j v) k i f := rfl
theorem sA_rB (S : fm) (k i a b j : Nat) (f : Nat → Bool) (v : Option Nat) : sA (rB S k i f) a b j v = rB (sA S a b j v) k i f := rfl
theorem sA_rU (S : fm) (k i a b j : Nat) (f : Nat → Nat) (v : Option Nat) : sA (rU S k i f) a b j v = rU (sA S a b j v) k i f := rfl
theorem rU_self (S : fm) (k i : Nat) : rU S k i (mU S k i) = S := by
  have h : u2 S.2.2.2.2.1 k i (mU S k i) = S.2.2.2.2.1 := by
    funext a b
    unfold u2
    by_cases h : a = k ∧ b = i
    · rw [if_pos h, h.1, h.2]; rfl
    · rw [if_neg h]
  show (S.1, S.2.1, S.2.2.1, S.2.2.2.1, u2 S.2.2.2.2.1 k i (mU S k i), S.2.2.2.2.2) = _
  rw [h]
theorem sU_rI (S : fm) (k i a b j : Nat) (f : Nat → Int32) (v : Nat) : sU (rI S k i f) a b j v = rI (sU S a b j v) k i f := rfl
theorem sU_rJ (S : fm) (k i a b j : Nat) (f : Nat → Int64) (v : Nat) : sU (rJ S k i f) a b j v = rJ (sU S a b j v) k i f := rfl
theorem sU_rB (S : fm) (k i a b j : Nat) (f : Nat → Bool) (v : Nat) : sU (rB S k i f) a b j v = rB (sU S a b j v) k i f := rfl
theorem sU_rA (S : fm) (k i a b j : Nat) (f : Nat → Option Nat) (v : Nat) : sU (rA S k i f) a b j v = rA (sU S a b j v) k i f := rfl
def bI (v : BitVec 8) : Int32 := nI v.toNat
def b2 (b : Bool) : Int32 := if b then 1 else 0
theorem b2_0 (b : Bool) : b2 b = 0 ↔ b = false := by cases b <;> decide
theorem b2_nar (b : Bool) : narrow .boolean (.int (b2 b)) = .int (b2 b) := by cases b <;> rfl
theorem b2_fit (b : Bool) : fits .boolean (.int (b2 b)) = true := by cases b <;> rfl
/-- the layout: the address of an object or array by its kind and number, the label at an address, the arrays' tables, the tables, N, K, D, where all begins, where the letters begin -/
abbrev fy : Type := (Nat → Nat → Nat) × (Nat → Option (Nat × Nat)) × (Nat → ClassId) × va_G × Nat × Nat × Nat × Nat × Nat
def xa (x : fy) : Nat → Nat → Nat := x.1
def xl (x : fy) : Nat → Option (Nat × Nat) := x.2.1
def xg (x : fy) : Nat → ClassId := x.2.2.1
def xd (x : fy) : va_G := x.2.2.2.1
def xN (x : fy) : Nat := x.2.2.2.2.1
def xK (x : fy) : Nat := x.2.2.2.2.2.1
def xD (x : fy) : Nat := x.2.2.2.2.2.2.1
def xs (x : fy) : Nat := x.2.2.2.2.2.2.2.1
def xb (x : fy) : Nat := x.2.2.2.2.2.2.2.2
def xM (x : fy) : Nat := (xN x - xK x) / 2
def xQ (x : fy) : Nat := xN x - xM x
def xR (x : fy) : Nat := (8 + xK x - 1) / xK x
abbrev xt (x : fy) : List (ClassId × FieldType) := [(xg x 0, .int), (xg x 1, .long), (xg x 2, .boolean), (xg x 3, .object rn_C), (xg x 4, .object rn_S), (xg x 5, .object rn_R), (xg x 6, .object rn_L)]
abbrev qa (f : Nat → Option Nat) : (Nat → Int32) ⊕ (Nat → Int64) ⊕ (Nat → UInt32) ⊕ (Nat → UInt64) ⊕ (Nat → Option Nat) := .inr (.inr (.inr (.inr f)))
abbrev ja (f : Nat → Int64) : (Nat → Int32) ⊕ (Nat → Int64) ⊕ (Nat → UInt32) ⊕ (Nat → UInt64) ⊕ (Nat → Option Nat) := .inr (.inl f)
/-- the cell of kind k, number i, out of its own row of the memory -/
def fcr (x : fy) (k i : Nat) (I : Nat → Int32) (J : Nat → Int64) (B : Nat → Bool) (A : Nat → Option Nat) (U : Nat → Nat) : va_E := match k with
  | 0 => .inr (5, [.int (nI (xQ x)), .int (nI (xM x)), .ref (xa x 1 0), .ref (xa x 3 0), .ref (xa x 4 0), .ref (xa x 5 0), .ref (xa x 6 0), .int (I 7)])
  | 1 => .inr (1, [.int (nI (xK x)), .int (nI (xR x)), .ref (xa x 2 0)])
  | 2 => .inl (xg x 0, xK x, .inl (fun j => bI (BitVec.ofNat 8 (U j))))
  | 3 => .inl (xg x 3, 5, qa (fun j => some (xa x 7 j)))
  | 4 => .inl (xg x 4, xN x, qa (fun j => some (xa x 10 j)))
  | 5 => .inl (xg x 5, 5 * xN x, qa (fun j => some (xa x 13 j)))
  | 6 => .inl (xg x 5, 5 * xN x, qa (fun j => some (xa x 13 (100 + j))))
  | 7 => .inr (0, [.int (nI i), .ref (xa x 8 i), .ref (xa x 9 i), .int (nI (U 3)), .int (b2 (B 4)), .int (I 5), .int (I 6), .int (I 7), .int (I 8), .int (I 9), .long (J 10), .long (J 11), .int (I 12)])
  | 8 => .inl (xg x 0, xK x, .inl (fun j => nI (U j)))
  | 9 => .inl (xg x 1, xK x, ja J)
  | 10 => .inr (4, [.int (nI (xD x + 1)), .ref (xa x 11 i), .ref (xa x 12 i), .int (nI (U 3)), .int (I 4), .int (b2 (B 5))])
  | 11 => .inl (xg x 0, xD x + 2, .inl I)
  | 12 => .inl (xg x 1, xD x + 2, ja J)
  | 13 => .inr (3, [.ref (xa x 14 i), .int (nI (U 1))])
  | 14 => .inl (xg x 6, 7, qa A)
  | 15 => .inr (2, [.int (I 0), .int (I 1), .int (I 2), .long (J 3), .int (I 4), .int (b2 (B 5))])
  | 16 => .inr (6, [.int (nI (xN x)), .int (nI (xK x)), .int (nI (xD x)), .ref (xa x 23 0), .ref (xa x 24 0), .ref (xa x 25 0), .ref (xa x 26 0), .ref (xa x 27 0), .ref (xa x 28 0), .ref (xa x 29 0), .ref (xa x 30 0), .ref (xa x 31 0), .ref (xa x 32 0), .ref (xa x 33 0), .ref (xa x 34 0), .ref (xa x 35 0), .ref (xa x 36 0), .ref (xa x 37 0), .int (nI (U 18)), .ref (xa x 39 0), .ref (xa x 40 0), .ref (xa x 41 0), .ref (xa x 42 0), .ref (xa x 43 0), .ref (xa x 44 0), .ref (xa x 45 0), .ref (xa x 46 0)])
  | 23 => .inl (xg x 0, 5, .inl I)
  | 24 => .inl (xg x 0, 5, .inl I)
  | 25 => .inl (xg x 0, 5, .inl I)
  | 26 => .inl (xg x 0, 5, .inl I)
  | 27 => .inl (xg x 0, 5, .inl I)
  | 28 => .inl (xg x 0, 5, .inl I)
  | 29 => .inl (xg x 0, 5, .inl I)
  | 30 => .inl (xg x 1, 5, ja J)
  | 31 => .inl (xg x 1, 5, ja J)
  | 32 => .inl (xg x 1, 5, ja J)
  | 33 => .inl (xg x 2, 7, .inl (fun j => b2 (B j)))
  | 34 => .inl (xg x 0, 7, .inl I)
  | 35 => .inl (xg x 0, 7, .inl (fun j => nI (U j)))
  | 36 => .inl (xg x 0, 35, .inl I)
  | 37 => .inl (xg x 1, 35, ja J)
  | 39 => .inl (xg x 2, 256, .inl (fun j => b2 (B j)))
  | 40 => .inl (xg x 2, 256, .inl (fun j => b2 (B j)))
  | 41 => .inl (xg x 0, 256, .inl I)
  | 42 => .inl (xg x 0, 256, .inl I)
  | 43 => .inl (xg x 0, 256, .inl I)
  | 44 => .inl (xg x 0, 256, .inl I)
  | 45 => .inl (xg x 0, 256, .inl I)
  | 46 => .inl (xg x 1, 256, ja J)
  | _ => .inl (xg x 0, 0, .inl I)
def fc (x : fy) (S : fm) (k i : Nat) : va_E := fcr x k i (mI S k i) (mJ S k i) (mB S k i) (mA S k i) (mU S k i)
def wd (x : fy) (S : fm) (a : Nat) : Option va_E := match xl x a with
  | some q => some (fc x S q.1 q.2)
  | none => if xb x ≤ a ∧ a < mZ S then some (fc x S 15 a) else none
/-- the layout is sound -/
def fO (x : fy) : Prop := (∀ a k i, xl x a = some (k, i) → a = xa x k i ∧ xs x ≤ a ∧ a < xb x ∧ k ≠ 15) ∧ xs x ≤ xb x ∧ 3 ≤ xN x ∧ xN x ≤ 7 ∧ 1 ≤ xK x ∧ xK x ≤ xN x ∧ xD x ≤ 3
/-- the heap holds the memory -/
def fP (x : fy) (S : fm) (H : Heap) : Prop := fO x ∧ xb x ≤ mZ S ∧ H.size = mZ S ∧ ∀ a e, wd x S a = some e → va_at (xd x) cls_all (a, e) H
def fat (x : fy) (S : fm) (a k i : Nat) : Prop := xl x a = some (k, i) ∨ (xl x a = none ∧ xb x ≤ a ∧ a < mZ S ∧ k = 15 ∧ i = a)
def fv (x : fy) (k i : Nat) : Prop := xl x (xa x k i) = some (k, i)
def fvL (x : fy) (S : fm) (a : Nat) : Prop := xl x a = none ∧ xb x ≤ a ∧ a < mZ S
theorem fv.at {x : fy} {k i : Nat} (h : fv x k i) (S : fm) : fat x S (xa x k i) k i := Or.inl h
theorem fvL.at {x : fy} {S : fm} {a : Nat} (h : fvL x S a) : fat x S a 15 a := Or.inr ⟨h.1, h.2.1, h.2.2, rfl, rfl⟩
theorem fat.cell {x : fy} {S : fm} {a k i : Nat} (h : fat x S a k i) : wd x S a = some (fc x S k i) := by
  unfold wd
  rcases h with h | ⟨h, h1, h2, rfl, rfl⟩
  · rw [h]
  · rw [h]
    exact if_pos ⟨h1, h2⟩
theorem fat.lo {x : fy} {S : fm} {a k i : Nat} (hO : fO x) (h : fat x S a k i) : xs x ≤ a := by
  rcases h with h | ⟨h, h1, h2, rfl, rfl⟩
  · exact (hO.1 _ _ _ h).2.1
  · exact Nat.le_trans hO.2.1 h1
/-- one label, one address -/
theorem fat.uniq {x : fy} {S : fm} {a b k i : Nat} (hO : fO x) (h : fat x S a k i) (h' : fat x S b k i) : a = b := by
  rcases h with h | ⟨h, h1, h2, h3, h4⟩ <;> rcases h' with h' | ⟨h', h1', h2', h3', h4'⟩
  · rw [(hO.1 _ _ _ h).1, ← (hO.1 _ _ _ h').1]
  · exact absurd h3' (hO.1 _ _ _ h).2.2.2
  · exact absurd h3 (hO.1 _ _ _ h').2.2.2
  · rw [← h4, ← h4']
theorem wd.at {x : fy} {S : fm} {a : Nat} {e : va_E} (h : wd x S a = some e) : ∃ k i, fat x S a k i ∧ e = fc x S k i := by
  unfold wd at h
  split at h
  next q hq => exact ⟨q.1, q.2, Or.inl hq, (Option.some.inj h).symm⟩
  next hq =>
    split at h
    next h1 => exact ⟨15, a, Or.inr ⟨hq, h1.1, h1.2, rfl, rfl⟩, (Option.some.inj h).symm⟩
    next => cases h
theorem fP.one {x : fy} {S : fm} {H : Heap} {a k i : Nat} (hP : fP x S H) (h : fat x S a k i) : va_P (xd x) cls_all [(a, fc x S k i)] H := by
  intro n q hn
  have hz : n < 1 := (List.getElem?_eq_some_iff.mp hn).1
  rw [show n = 0 by omega] at hn
  cases hn
  exact hP.2.2.2 _ _ h.cell
theorem fP.set {x : fy} {S S' : fm} {H H1 : Heap} {a k i : Nat} (hP : fP x S H) (h : fat x S a k i) (h3 : ∀ b d, ¬ (b = k ∧ d = i) → fc x S' b d = fc x S b d) (hz : mZ S' = mZ S) (hn : va_at (xd x) cls_all (a, fc x S' k i) H1) (z : H1.size = H.size) (oq : ∀ q : Nat, q ≠ a → H1[q]? = H[q]?) : fP x S' H1 := by
  refine ⟨hP.1, by rw [hz]; exact hP.2.1, by rw [z, hz]; exact hP.2.2.1, fun q e he => ?_⟩
  obtain ⟨k', i', hq, rfl⟩ := wd.at he
  have hq' : fat x S q k' i' := by
    rcases hq with hq | ⟨h1, h2, h4, h5⟩
    · exact Or.inl hq
    · exact Or.inr ⟨h1, h2, by rw [← hz]; exact h4, h5⟩
  by_cases hki : k' = k ∧ i' = i
  · obtain ⟨rfl, rfl⟩ := hki
    rw [hq'.uniq hP.1 h]
    exact hn
  · rw [h3 _ _ hki]
    by_cases hqa : q = a
    · subst hqa
      exfalso
      rcases h with h | ⟨g, g1, g2, g3, g4⟩ <;> rcases hq' with h' | ⟨g', g1', g2', g3', g4'⟩
      · rw [h] at h'
        exact hki ⟨(Prod.mk.inj (Option.some.inj h')).1.symm, (Prod.mk.inj (Option.some.inj h')).2.symm⟩
      · rw [h] at g'
        cases g'
      · rw [g] at h'
        cases h'
      · exact hki ⟨g3'.trans g3.symm, g4'.trans g4.symm⟩
    · exact (hP.2.2.2 _ _ hq'.cell).kept (oq q hqa)
theorem fc_sI {x : fy} {S : fm} {k i j : Nat} {v : Int32} : ∀ b d, ¬ (b = k ∧ d = i) → fc x (sI S k i j v) b d = fc x S b d := by
  intro b d h
  show fcr x b d (mI (sI S k i j v) b d) (mJ (sI S k i j v) b d) (mB (sI S k i j v) b d) (mA (sI S k i j v) b d) (mU (sI S k i j v) b d) = _
  rw [show mI (sI S k i j v) b d = mI S b d from u2_n h]
  rfl
theorem mI_row {S : fm} {k i j : Nat} {v : Int32} : mI (sI S k i j v) k i = va_up (mI S k i) j v := u2_s
theorem fc_sJ {x : fy} {S : fm} {k i j : Nat} {v : Int64} : ∀ b d, ¬ (b = k ∧ d = i) → fc x (sJ S k i j v) b d = fc x S b d := by
  intro b d h
  show fcr x b d (mI (sJ S k i j v) b d) (mJ (sJ S k i j v) b d) (mB (sJ S k i j v) b d) (mA (sJ S k i j v) b d) (mU (sJ S k i j v) b d) = _
  rw [show mJ (sJ S k i j v) b d = mJ S b d from u2_n h]
  rfl
theorem mJ_row {S : fm} {k i j : Nat} {v : Int64} : mJ (sJ S k i j v) k i = va_up (mJ S k i) j v := u2_s
theorem fc_sB {x : fy} {S : fm} {k i j : Nat} {v : Bool} : ∀ b d, ¬ (b = k ∧ d = i) → fc x (sB S k i j v) b d = fc x S b d := by
  intro b d h
  show fcr x b d (mI (sB S k i j v) b d) (mJ (sB S k i j v) b d) (mB (sB S k i j v) b d) (mA (sB S k i j v) b d) (mU (sB S k i j v) b d) = _
  rw [show mB (sB S k i j v) b d = mB S b d from u2_n h]
  rfl
theorem mB_row {S : fm} {k i j : Nat} {v : Bool} : mB (sB S k i j v) k i = va_up (mB S k i) j v := u2_s
theorem fc_sA {x : fy} {S : fm} {k i j : Nat} {v : Option Nat} : ∀ b d, ¬ (b = k ∧ d = i) → fc x (sA S k i j v) b d = fc x S b d := by
  intro b d h
  show fcr x b d (mI (sA S k i j v) b d) (mJ (sA S k i j v) b d) (mB (sA S k i j v) b d) (mA (sA S k i j v) b d) (mU (sA S k i j v) b d) = _
  rw [show mA (sA S k i j v) b d = mA S b d from u2_n h]
  rfl
theorem mA_row {S : fm} {k i j : Nat} {v : Option Nat} : mA (sA S k i j v) k i = va_up (mA S k i) j v := u2_s
theorem fc_sU {x : fy} {S : fm} {k i j : Nat} {v : Nat} : ∀ b d, ¬ (b = k ∧ d = i) → fc x (sU S k i j v) b d = fc x S b d := by
  intro b d h
  show fcr x b d (mI (sU S k i j v) b d) (mJ (sU S k i j v) b d) (mB (sU S k i j v) b d) (mA (sU S k i j v) b d) (mU (sU S k i j v) b d) = _
  rw [show mU (sU S k i j v) b d = mU S b d from u2_n h]
  rfl
theorem mU_row {S : fm} {k i j : Nat} {v : Nat} : mU (sU S k i j v) k i = va_up (mU S k i) j v := u2_s
theorem f_len {x : fy} {k i : Nat} {I : Nat → Int32} {J : Nat → Int64} {B : Nat → Bool} {A : Nat → Option Nat} {U : Nat → Nat} {cA : ClassId} {n : Nat} {d : (Nat → Int32) ⊕ (Nat → Int64) ⊕ (Nat → UInt32) ⊕ (Nat → UInt64) ⊕ (Nat → Option Nat)} (hO : fO x) (h : fcr x k i I J B A U = .inl (cA, n, d)) : n < 2 ^ 31 := by
  obtain ⟨-, -, h1, h2, h3, h4, h5⟩ := hO
  unfold fcr at h
  split at h <;> first | (cases h; done) | (cases h; omega)
