-- the reference's product; small rows for its larger methods
def hI (v : BitVec 16) : Int32 := nI v.toNat
def cp (a b : BitVec 8) : Nat → BitVec 16
  | 0 => 0#16
  | n + 1 => cp a b n ^^^ (if b.getLsbD n then (a.setWidth 16) <<< n else 0#16)
def rs (n : Nat) (p : BitVec 16) : BitVec 16 := p ^^^ (if p.getLsbD (8 + n) then 285#16 <<< n else 0#16)
def rd : Nat → BitVec 16 → BitVec 16
  | 0, p => p
  | n + 1, p => rd n (rs n p)
theorem x4_16 (a b c d : BitVec 16) : (a ^^^ b) ^^^ (c ^^^ d) = (a ^^^ c) ^^^ (b ^^^ d) := by
  rw [BitVec.xor_assoc, BitVec.xor_assoc, ← BitVec.xor_assoc b c d, BitVec.xor_comm b c, BitVec.xor_assoc c b d]
theorem rs_l (n : Nat) (p q : BitVec 16) : rs n (p ^^^ q) = rs n p ^^^ rs n q := by
  unfold rs
  rw [x4_16 p _ q, BitVec.getLsbD_xor]
  congr 1
  cases p.getLsbD (8 + n) <;> cases q.getLsbD (8 + n) <;> simp
theorem rd_l (n : Nat) : ∀ p q : BitVec 16, rd n (p ^^^ q) = rd n p ^^^ rd n q := by
  induction n with
  | zero => intro p q; rfl
  | succ n ih => intro p q; show rd n (rs n _) = _; rw [rs_l, ih]; rfl
theorem cp_l (a a' b : BitVec 8) (n : Nat) : cp (a ^^^ a') b n = cp a b n ^^^ cp a' b n := by
  induction n with
  | zero => simp [cp]
  | succ n ih =>
    show cp _ b n ^^^ _ = (cp a b n ^^^ _) ^^^ (cp a' b n ^^^ _)
    rw [ih, x4_16 (cp a b n)]
    congr 1
    cases b.getLsbD n
    · simp
    · simp only [if_true]
      rw [BitVec.setWidth_xor, BitVec.shiftLeft_xor_distrib]
theorem cp_r (a b b' : BitVec 8) (n : Nat) : cp a (b ^^^ b') n = cp a b n ^^^ cp a b' n := by
  induction n with
  | zero => simp [cp]
  | succ n ih =>
    show cp a _ n ^^^ _ = (cp a b n ^^^ _) ^^^ (cp a b' n ^^^ _)
    rw [ih, x4_16 (cp a b n)]
    congr 1
    rw [BitVec.getLsbD_xor]
    cases b.getLsbD n <;> cases b'.getLsbD n <;> simp
theorem prod_ok (a b : BitVec 8) : rd 7 (cp a b 8) = (gf_m a b).setWidth 16 := by
  refine gf_lin (fun a => rd 7 (cp a b 8)) (fun a => (gf_m a b).setWidth 16) (fun p q => by show rd 7 _ = _; rw [cp_l, rd_l]) (fun p q => by show BitVec.setWidth 16 _ = _; rw [gf_ml, BitVec.setWidth_xor]) (fun i hi => ?_) a
  refine gf_lin (fun b => rd 7 (cp (gf_e i) b 8)) (fun b => (gf_m (gf_e i) b).setWidth 16) (fun p q => by show rd 7 _ = _; rw [cp_r, rd_l]) (fun p q => by show BitVec.setWidth 16 _ = _; rw [gf_mr, BitVec.setWidth_xor]) (fun j hj => ?_) b
  have : ∀ i, i < 8 → ∀ j, j < 8 → rd 7 (cp (gf_e i) (gf_e j) 8) = (gf_m (gf_e i) (gf_e j)).setWidth 16 := by decide +kernel
  exact this i hi j hj
theorem hI_b (v : BitVec 8) : hI (v.setWidth 16) = bI v := by
  unfold hI bI
  rw [BitVec.toNat_setWidth, Nat.mod_eq_of_lt (by have := v.isLt; omega)]
theorem hI_xor (p q : BitVec 16) : hI p ^^^ hI q = hI (p ^^^ q) := by
  unfold hI
  rw [bx_x, BitVec.toNat_xor]
theorem hI_sh0 : ∀ n, n < 32 → ((nI n &&& 31).toBitVec.smod 32).toNat = n := by decide +kernel
theorem hI_bit (p : BitVec 16) {i : Nat} (hi : i < 32) : (hI p >>> (nI i &&& 31)) &&& 1 = 1 ↔ p.getLsbD i = true := by
  have hp := p.isLt
  unfold hI
  rw [pk_shrN (by omega) _ i (hI_sh0 i hi), pk_andN (Nat.lt_of_le_of_lt (Nat.div_le_self _ _) (by omega)) (m := 1) 1 (by decide)]
  rw [show (1 : Int32) = nI 1 from rfl, nI_eq (by have := Nat.mod_lt (p.toNat / 2 ^ i) (show 2 ^ 1 > 0 by decide); omega) (by omega)]
  rw [← BitVec.testBit_toNat, Nat.testBit_eq_decide_div_mod_eq]
  simp
theorem hI_shl (a : BitVec 8) {n : Nat} (hn : n < 8) : bI a <<< (nI n &&& 31) = hI ((a.setWidth 16) <<< n) := by
  have ha := a.isLt
  unfold bI hI
  have h2 : 2 ^ n ≤ 2 ^ 7 := Nat.pow_le_pow_right (by decide) (by omega)
  have h3 : a.toNat * 2 ^ n ≤ 255 * 2 ^ 7 := Nat.mul_le_mul (by omega) h2
  rw [pk_shlN _ n (hI_sh0 n (by omega)) (by omega), BitVec.toNat_shiftLeft, BitVec.toNat_setWidth, Nat.mod_eq_of_lt (show a.toNat < 2 ^ 16 by omega), Nat.shiftLeft_eq, Nat.mod_eq_of_lt (by omega)]
theorem hI_285 : ∀ n, n < 7 → (285 : Int32) <<< (nI n &&& 31) = hI (285#16 <<< n) := by decide +kernel
theorem bI_hbit (b : BitVec 8) {i : Nat} (hi : i < 8) : (bI b >>> (nI i &&& 31)) &&& 1 = 1 ↔ b.getLsbD i = true := by
  rw [← hI_b, hI_bit _ (by omega)]
  simp [hi, show i < 16 by omega]
theorem hI_0 : hI 0#16 = 0 := by decide +kernel
theorem cp_t {a b : BitVec 8} {n : Nat} (h : b.getLsbD n = true) : cp a b (n + 1) = cp a b n ^^^ ((a.setWidth 16) <<< n) := by show cp a b n ^^^ _ = _; rw [h]; rfl
theorem cp_f {a b : BitVec 8} {n : Nat} (h : b.getLsbD n = false) : cp a b (n + 1) = cp a b n := by show cp a b n ^^^ _ = _; rw [h]; simp
theorem rs_t {p : BitVec 16} {n : Nat} (h : p.getLsbD (8 + n) = true) : rs n p = p ^^^ (285#16 <<< n) := by unfold rs; rw [h]; rfl
theorem rs_f {p : BitVec 16} {n : Nat} (h : p.getLsbD (8 + n) = false) : rs n p = p := by unfold rs; rw [h]; simp
theorem n_send_L (S : fm) (b : Bool) (c s : Nat) (p w : Int32) : mL (n_send S b c s p w) = mL S + 1 := rfl
theorem n_begs_L (S : fm) (c : Nat) (p : Int32) : ∀ n, mL (n_begs S c p n) ≤ mL S + n := by
  intro n
  induction n with
  | zero => exact Nat.le_refl _
  | succ n ih =>
    show mL (n_beg1 (n_begs S c p n) c n p) ≤ _
    unfold n_beg1
    split
    · omega
    · rw [n_send_L]; omega
theorem n_len (x : fy) (hO : fO x) : (nI 8 + nI (xK x) - 1) / nI (xK x) = nI (xR x) := by
  have h1 : 1 ≤ xK x := hO.2.2.2.2.1
  have h2 : xK x ≤ 7 := by have := hO; unfold fO at this; omega
  rw [nI_add, f_pred (by omega), pk_div (by omega) (by omega) (by omega)]
  rfl
theorem n_place_lt {S : fm} {s i : Nat} {t : Int32} (h : n_place S s t = some i) : ∃ q, q < mU S 35 0 s ∧ i = 5 * s + q := by
  unfold n_place at h
  cases hq : (List.range (mU S 35 0 s)).find? (fun q => decide (mI S 36 0 (5 * s + q) = t)) with
  | none => rw [hq] at h; cases h
  | some q =>
    rw [hq] at h
    cases h
    exact ⟨q, List.mem_range.mp (List.mem_of_find?_eq_some hq), rfl⟩
theorem n_seek_lt {S : fm} {b : Bool} {c s i : Nat} {j : Int32} (h : n_seek S b c s j = some i) : i < mL S := List.mem_range.mp (List.mem_of_find?_eq_some h)
theorem n_abv_le (f : Nat → Int32) (b : Nat) (v : Int32) : ∀ n, n_abv f b v n ≤ n := by
  intro n
  induction n with
  | zero => exact Nat.le_refl _
  | succ n ih =>
    rw [show n_abv f b v (n + 1) = if v < f (b + n) then n_abv f b v n + 1 else n_abv f b v n from rfl]
    split <;> omega
theorem n_gone_le (S : fm) : ∀ n, n_gone S n ≤ n := by
  intro n
  induction n with
  | zero => exact Nat.le_refl _
  | succ n ih =>
    rw [show n_gone S (n + 1) = if mB S 33 0 n = true then n_gone S n + 1 else n_gone S n from rfl]
    split <;> omega
