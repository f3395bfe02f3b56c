-- bytes as BitVec 8: the product, bilinear, commutative, associative; inverses; interpolation
def gf_x (a : BitVec 8) : BitVec 8 := (a <<< 1) ^^^ (if a.msb then 29#8 else 0#8)
def gf_p : Nat → BitVec 8 → BitVec 8
  | 0, a => a
  | n + 1, a => gf_x (gf_p n a)
/-- the first n bits of b: the sum of a, shifted -/
def gf_s : Nat → BitVec 8 → BitVec 8 → BitVec 8
  | 0, _, _ => 0#8
  | n + 1, a, b => gf_s n a b ^^^ (if b.getLsbD n then gf_p n a else 0#8)
def gf_m (a b : BitVec 8) : BitVec 8 := gf_s 8 a b
theorem gf_x4 (a b c d : BitVec 8) : (a ^^^ b) ^^^ (c ^^^ d) = (a ^^^ c) ^^^ (b ^^^ d) := by
  rw [BitVec.xor_assoc, BitVec.xor_assoc, ← BitVec.xor_assoc b c d, BitVec.xor_comm b c, BitVec.xor_assoc c b d]
theorem gf_xl : ∀ a b : BitVec 8, gf_x (a ^^^ b) = gf_x a ^^^ gf_x b := by
  intro a b
  unfold gf_x
  rw [BitVec.msb_xor, BitVec.shiftLeft_xor_distrib]
  rw [gf_x4 (a <<< 1) _ (b <<< 1)]
  congr 1
  cases a.msb <;> cases b.msb <;> decide
theorem gf_pl (n : Nat) (a b : BitVec 8) : gf_p n (a ^^^ b) = gf_p n a ^^^ gf_p n b := by
  induction n with
  | zero => rfl
  | succ n ih => show gf_x _ = _; rw [ih, gf_xl]; rfl
theorem gf_sl (n : Nat) (a a' b : BitVec 8) : gf_s n (a ^^^ a') b = gf_s n a b ^^^ gf_s n a' b := by
  induction n with
  | zero => simp [gf_s]
  | succ n ih =>
    show gf_s n _ b ^^^ _ = _
    rw [ih, gf_pl]
    cases h : b.getLsbD n <;> simp [gf_s, h, gf_x4]
theorem gf_sr (n : Nat) (a b b' : BitVec 8) : gf_s n a (b ^^^ b') = gf_s n a b ^^^ gf_s n a b' := by
  induction n with
  | zero => simp [gf_s]
  | succ n ih =>
    show gf_s n a _ ^^^ _ = (gf_s n a b ^^^ _) ^^^ (gf_s n a b' ^^^ _)
    rw [ih, gf_x4]
    congr 1
    rw [BitVec.getLsbD_xor]
    cases b.getLsbD n <;> cases b'.getLsbD n <;> simp
theorem gf_ml (a a' b : BitVec 8) : gf_m (a ^^^ a') b = gf_m a b ^^^ gf_m a' b := gf_sl 8 a a' b
theorem gf_mr (a b b' : BitVec 8) : gf_m a (b ^^^ b') = gf_m a b ^^^ gf_m a b' := gf_sr 8 a b b'
/-- a byte is the sum of its bits -/
def gf_e (i : Nat) : BitVec 8 := 1#8 <<< i
def gf_c (a : BitVec 8) (i : Nat) : BitVec 8 := if a.getLsbD i then gf_e i else 0#8
theorem gf_bits : ∀ a : BitVec 8, a = gf_c a 0 ^^^ (gf_c a 1 ^^^ (gf_c a 2 ^^^ (gf_c a 3 ^^^ (gf_c a 4 ^^^ (gf_c a 5 ^^^ (gf_c a 6 ^^^ gf_c a 7)))))) := by decide +kernel
theorem gf_lin {n : Nat} (f g : BitVec 8 → BitVec n) (hf : ∀ a b, f (a ^^^ b) = f a ^^^ f b) (hg : ∀ a b, g (a ^^^ b) = g a ^^^ g b) (h : ∀ i, i < 8 → f (gf_e i) = g (gf_e i)) (a : BitVec 8) : f a = g a := by
  have f0 : f 0#8 = 0#n := by have := hf 0#8 0#8; simpa using this
  have g0 : g 0#8 = 0#n := by have := hg 0#8 0#8; simpa using this
  have hc : ∀ i, i < 8 → f (gf_c a i) = g (gf_c a i) := by
    intro i hi
    unfold gf_c
    cases a.getLsbD i
    · simp [f0, g0]
    · simpa using h i hi
  rw [gf_bits a]
  simp only [hf, hg]
  rw [hc 0 (by decide), hc 1 (by decide), hc 2 (by decide), hc 3 (by decide), hc 4 (by decide), hc 5 (by decide), hc 6 (by decide), hc 7 (by decide)]
theorem gf_comm (a b : BitVec 8) : gf_m a b = gf_m b a := by
  refine gf_lin (fun a => gf_m a b) (fun a => gf_m b a) (fun x y => gf_ml x y b) (fun x y => gf_mr b x y) (fun i hi => ?_) a
  refine gf_lin (fun b => gf_m (gf_e i) b) (fun b => gf_m b (gf_e i)) (fun x y => gf_mr _ x y) (fun x y => gf_ml x y _) (fun j hj => ?_) b
  have : ∀ i, i < 8 → ∀ j, j < 8 → gf_m (gf_e i) (gf_e j) = gf_m (gf_e j) (gf_e i) := by decide +kernel
  exact this i hi j hj
theorem gf_assoc (a b d : BitVec 8) : gf_m (gf_m a b) d = gf_m a (gf_m b d) := by
  refine gf_lin (fun a => gf_m (gf_m a b) d) (fun a => gf_m a (gf_m b d)) (fun x y => by show gf_m (gf_m _ _) _ = _; rw [gf_ml, gf_ml]) (fun x y => gf_ml x y _) (fun i hi => ?_) a
  refine gf_lin (fun b => gf_m (gf_m (gf_e i) b) d) (fun b => gf_m (gf_e i) (gf_m b d)) (fun x y => by show gf_m (gf_m _ _) _ = _; rw [gf_mr, gf_ml]) (fun x y => by show gf_m _ (gf_m _ _) = _; rw [gf_ml, gf_mr]) (fun j hj => ?_) b
  refine gf_lin (fun d => gf_m (gf_m (gf_e i) (gf_e j)) d) (fun d => gf_m (gf_e i) (gf_m (gf_e j) d)) (fun x y => gf_mr _ x y) (fun x y => by show gf_m _ (gf_m _ _) = _; rw [gf_mr, gf_mr]) (fun k hk => ?_) d
  have : ∀ i, i < 8 → ∀ j, j < 8 → ∀ k, k < 8 → gf_m (gf_m (gf_e i) (gf_e j)) (gf_e k) = gf_m (gf_e i) (gf_m (gf_e j) (gf_e k)) := by decide +kernel
  exact this i hi j hj k hk
theorem gf_one (a : BitVec 8) : gf_m a 1#8 = a := by
  have : ∀ a : BitVec 8, gf_m a 1#8 = a := by decide +kernel
  exact this a
theorem gf_zero (a : BitVec 8) : gf_m a 0#8 = 0#8 := by
  have := gf_mr a 0#8 0#8
  simpa using this
theorem gf_zl (a : BitVec 8) : gf_m 0#8 a = 0#8 := by rw [gf_comm, gf_zero]
theorem gf_ol (a : BitVec 8) : gf_m 1#8 a = a := by rw [gf_comm, gf_one]
/-- the power 254 -/
def gf_q : Nat → BitVec 8 → BitVec 8
  | 0, a => a
  | n + 1, a => gf_m (gf_q n a) (gf_q n a)
def gf_r : Nat → BitVec 8 → BitVec 8
  | 0, _ => 1#8
  | n + 1, a => gf_m (gf_r n a) (gf_q (n + 1) a)
def gf_i (a : BitVec 8) : BitVec 8 := gf_r 7 a
theorem gf_inv : ∀ a : BitVec 8, a.toNat < 8 → a ≠ 0#8 → gf_m a (gf_i a) = 1#8 := by
  have : ∀ n : Fin 8, BitVec.ofNat 8 n.val ≠ 0#8 → gf_m (BitVec.ofNat 8 n.val) (gf_i (BitVec.ofNat 8 n.val)) = 1#8 := by decide +kernel
  intro a ha h0
  have h1 := this ⟨a.toNat, ha⟩
  simp only [BitVec.ofNat_toNat, BitVec.setWidth_eq] at h1
  exact h1 h0
-- the complete symmetric sums of the points X a .. X (a + l - 1)
def gf_h (X : Nat → BitVec 8) : Nat → Nat → Nat → BitVec 8
  | 0, _, _ => 1#8
  | _ + 1, _, 0 => 0#8
  | n + 1, a, l + 1 => gf_h X (n + 1) a l ^^^ gf_m (X (a + l)) (gf_h X n a (l + 1))
termination_by n _ l => (n, l)
theorem gf_h0 (X : Nat → BitVec 8) (a l : Nat) : gf_h X 0 a l = 1#8 := by simp [gf_h]
theorem gf_hz (X : Nat → BitVec 8) (n a : Nat) : gf_h X (n + 1) a 0 = 0#8 := by simp [gf_h]
theorem gf_hb (X : Nat → BitVec 8) (n a l : Nat) : gf_h X (n + 1) a (l + 1) = gf_h X (n + 1) a l ^^^ gf_m (X (a + l)) (gf_h X n a (l + 1)) := by rw [gf_h]
/-- from the front -/
theorem gf_hf (X : Nat → BitVec 8) : ∀ n l a, gf_h X (n + 1) a (l + 1) = gf_h X (n + 1) (a + 1) l ^^^ gf_m (X a) (gf_h X n a (l + 1)) := by
  intro n
  induction n with
  | zero =>
    intro l
    induction l with
    | zero => intro a; rw [gf_hb X 0 a 0, gf_hz, gf_hz, Nat.add_zero]
    | succ l ih =>
      intro a
      rw [gf_hb X 0 a (l + 1), ih a, gf_hb X 0 (a + 1) l, gf_h0, gf_h0, gf_h0, show a + 1 + l = a + (l + 1) by omega]
      rw [BitVec.xor_assoc, BitVec.xor_assoc, BitVec.xor_comm (gf_m (X a) 1#8)]
  | succ n ihn =>
    intro l
    induction l with
    | zero => intro a; rw [gf_hb X (n + 1) a 0, gf_hz, gf_hz, Nat.add_zero]
    | succ l ih =>
      intro a
      have t1 := gf_hb X n a (l + 1)
      have t2 := ihn (l + 1) a
      have hL : gf_m (X (a + (l + 1))) (gf_h X (n + 1) a (l + 1 + 1)) = gf_m (X (a + (l + 1))) (gf_h X (n + 1) (a + 1) (l + 1)) ^^^ gf_m (X (a + (l + 1))) (gf_m (X a) (gf_h X n a (l + 1 + 1))) := by rw [t2, gf_mr]
      have hR : gf_m (X a) (gf_h X (n + 1) a (l + 1 + 1)) = gf_m (X a) (gf_h X (n + 1) a (l + 1)) ^^^ gf_m (X a) (gf_m (X (a + (l + 1))) (gf_h X n a (l + 1 + 1))) := by rw [t1, gf_mr]
      have e1 : gf_m (X (a + (l + 1))) (gf_m (X a) (gf_h X n a (l + 1 + 1))) = gf_m (X a) (gf_m (X (a + (l + 1))) (gf_h X n a (l + 1 + 1))) := by rw [← gf_assoc, ← gf_assoc, gf_comm (X a)]
      rw [gf_hb X (n + 1) a (l + 1), ih a, gf_hb X (n + 1) (a + 1) l, show a + 1 + l = a + (l + 1) by omega, hL, hR, e1]
      exact gf_x4 _ _ _ _
/-- the divided difference of a power -/
theorem gf_hd (X : Nat → BitVec 8) (n a l : Nat) : gf_m (X (a + l) ^^^ X a) (gf_h X n a (l + 1)) = gf_h X (n + 1) (a + 1) l ^^^ gf_h X (n + 1) a l := by
  have h1 := gf_hb X n a l
  have h2 := gf_hf X n l a
  rw [gf_ml]
  rw [h1] at h2
  have h3 : ∀ p q r t : BitVec 8, p ^^^ q = r ^^^ t → q ^^^ t = r ^^^ p := by
    intro p q r t h
    have : q = p ^^^ (r ^^^ t) := by rw [← h, ← BitVec.xor_assoc, BitVec.xor_self, BitVec.zero_xor]
    rw [this, BitVec.xor_assoc, BitVec.xor_assoc, BitVec.xor_self, BitVec.xor_zero, BitVec.xor_comm]
  exact h3 _ _ _ _ h2
/-- sums -/
def gf_sum (f : Nat → BitVec 8) : Nat → BitVec 8
  | 0 => 0#8
  | n + 1 => gf_sum f n ^^^ f n
theorem gf_sum_x (f g : Nat → BitVec 8) (n : Nat) : gf_sum (fun m => f m ^^^ g m) n = gf_sum f n ^^^ gf_sum g n := by
  induction n with
  | zero => simp [gf_sum]
  | succ n ih => simp only [gf_sum]; rw [ih, gf_x4]
theorem gf_sum_m (y : BitVec 8) (f : Nat → BitVec 8) (n : Nat) : gf_sum (fun m => gf_m y (f m)) n = gf_m y (gf_sum f n) := by
  induction n with
  | zero => simp [gf_sum, gf_zero]
  | succ n ih => simp only [gf_sum]; rw [ih, gf_mr]
theorem gf_sum_c {f g : Nat → BitVec 8} {n : Nat} (h : ∀ m, m < n → f m = g m) : gf_sum f n = gf_sum g n := by
  induction n with
  | zero => rfl
  | succ n ih => simp only [gf_sum]; rw [ih (fun m hm => h m (by omega)), h n (by omega)]
theorem gf_sum_0 (n : Nat) : gf_sum (fun _ => 0#8) n = 0#8 := by
  induction n with
  | zero => rfl
  | succ n ih => simp [gf_sum, ih]
theorem gf_sum_1 {f : Nat → BitVec 8} {n k : Nat} (hk : k < n) (h : ∀ m, m ≠ k → f m = 0#8) : gf_sum f n = f k := by
  induction n with
  | zero => omega
  | succ n ih =>
    simp only [gf_sum]
    by_cases hn : n = k
    · subst hn
      rw [gf_sum_c (g := fun _ => 0#8) (fun m hm => h m (by omega)), gf_sum_0, BitVec.zero_xor]
    · rw [ih (by omega), h n hn, BitVec.xor_zero]
def gf_hm (X : Nat → BitVec 8) (m t a l : Nat) : BitVec 8 := if m < t then 0#8 else gf_h X (m - t) a l
/-- divided differences of the polynomial with the coefficients c: the entry t, i of Newton's scheme -/
def gf_D (c X : Nat → BitVec 8) (K t i : Nat) : BitVec 8 := gf_sum (fun m => gf_m (c m) (gf_hm X m t (i - t) (t + 1))) K
/-- the entries on the way back -/
def gf_E (c X : Nat → BitVec 8) (K s i : Nat) : BitVec 8 := gf_sum (fun m => gf_m (c m) (gf_hm X m i 0 s)) K
theorem gf_Dstep (c X : Nat → BitVec 8) (K t i : Nat) (hti : t + 1 ≤ i) (y : BitVec 8) (hy : gf_m (X i ^^^ X (i - (t + 1))) y = 1#8) : gf_m (gf_D c X K t i ^^^ gf_D c X K t (i - 1)) y = gf_D c X K (t + 1) i := by
  unfold gf_D
  rw [← gf_sum_x]
  have e : ∀ m, (gf_m (c m) (gf_hm X m t (i - t) (t + 1)) ^^^ gf_m (c m) (gf_hm X m t (i - 1 - t) (t + 1))) = gf_m (X i ^^^ X (i - (t + 1))) (gf_m (c m) (gf_hm X m (t + 1) (i - (t + 1)) (t + 1 + 1))) := by
    intro m
    rw [← gf_mr, ← gf_assoc, gf_comm (X i ^^^ X (i - (t + 1))), gf_assoc]
    congr 1
    unfold gf_hm
    by_cases h1 : m < t
    · rw [if_pos h1, if_pos h1, if_pos (by omega), gf_zero, BitVec.xor_self]
    · rw [if_neg h1, if_neg h1]
      by_cases h2 : m < t + 1
      · rw [if_pos h2, show m - t = 0 by omega, gf_h0, gf_h0, gf_zero, BitVec.xor_self]
      · rw [if_neg h2]
        have := gf_hd X (m - (t + 1)) (i - (t + 1)) (t + 1)
        rw [show i - (t + 1) + (t + 1) = i by omega, show m - (t + 1) + 1 = m - t by omega, show i - (t + 1) + 1 = i - t by omega] at this
        rw [this, show i - 1 - t = i - (t + 1) by omega]
  rw [show (fun m => gf_m (c m) (gf_hm X m t (i - t) (t + 1)) ^^^ gf_m (c m) (gf_hm X m t (i - 1 - t) (t + 1))) = fun m => gf_m (X i ^^^ X (i - (t + 1))) (gf_m (c m) (gf_hm X m (t + 1) (i - (t + 1)) (t + 1 + 1))) from funext e]
  rw [gf_sum_m, gf_comm, ← gf_assoc, gf_comm y, hy, gf_ol]
theorem gf_DE (c X : Nat → BitVec 8) (K i : Nat) : gf_D c X K i i = gf_E c X K (i + 1) i := by
  unfold gf_D gf_E
  rw [Nat.sub_self]
theorem gf_Estep (c X : Nat → BitVec 8) (K s i : Nat) : gf_E c X K (s + 1) i ^^^ gf_m (X s) (gf_E c X K (s + 1) (i + 1)) = gf_E c X K s i := by
  unfold gf_E
  rw [← gf_sum_m, ← gf_sum_x]
  congr 1
  funext m
  rw [← gf_assoc, gf_comm (X s), gf_assoc, ← gf_mr]
  congr 1
  unfold gf_hm
  by_cases h1 : m < i
  · rw [if_pos h1, if_pos h1, if_pos (by omega), gf_zero, BitVec.xor_self]
  · rw [if_neg h1, if_neg h1]
    by_cases h2 : m < i + 1
    · rw [if_pos h2, show m - i = 0 by omega, gf_h0, gf_h0, gf_zero, BitVec.xor_zero]
    · rw [if_neg h2]
      have := gf_hb X (m - (i + 1)) 0 s
      rw [show m - (i + 1) + 1 = m - i by omega, Nat.zero_add] at this
      rw [this, BitVec.xor_assoc, BitVec.xor_self, BitVec.xor_zero]
theorem gf_E0 (c X : Nat → BitVec 8) (K i : Nat) (hi : i < K) : gf_E c X K 0 i = c i := by
  unfold gf_E
  rw [gf_sum_1 hi]
  · unfold gf_hm
    rw [if_neg (by omega), Nat.sub_self, gf_h0, gf_one]
  · intro m hm
    unfold gf_hm
    by_cases h1 : m < i
    · rw [if_pos h1, gf_zero]
    · rw [if_neg h1, show m - i = (m - i - 1) + 1 by omega, gf_hz, gf_zero]
/-- the last entry never changes -/
theorem gf_Elast (c X : Nat → BitVec 8) (K s : Nat) (hK : 0 < K) : gf_E c X K s (K - 1) = c (K - 1) := by
  unfold gf_E
  have : ∀ m, m < K → gf_m (c m) (gf_hm X m (K - 1) 0 s) = gf_m (c m) (gf_hm X m (K - 1) 0 0) := by
    intro m hm
    unfold gf_hm
    by_cases h1 : m < K - 1
    · rw [if_pos h1, if_pos h1]
    · rw [if_neg h1, if_neg h1, show m - (K - 1) = 0 by omega, gf_h0, gf_h0]
  rw [gf_sum_c this]
  exact gf_E0 c X K (K - 1) (by omega)
/-- powers -/
def gf_w (x : BitVec 8) : Nat → BitVec 8
  | 0 => 1#8
  | n + 1 => gf_m (gf_w x n) x
theorem gf_hw (X : Nat → BitVec 8) (n i : Nat) : gf_h X n i 1 = gf_w (X i) n := by
  induction n with
  | zero => rw [gf_h0]; rfl
  | succ n ih => rw [gf_hb, gf_hz, BitVec.zero_xor, ih, gf_comm]; rfl
/-- Horner's sum of the upper n of K coefficients -/
def gf_o (c : Nat → BitVec 8) (x : BitVec 8) (K : Nat) : Nat → BitVec 8
  | 0 => 0#8
  | n + 1 => gf_m (gf_o c x K n) x ^^^ c (K - (n + 1))
def gf_v (c : Nat → BitVec 8) (x : BitVec 8) (K : Nat) : BitVec 8 := gf_sum (fun m => gf_m (c m) (gf_w x m)) K
theorem gf_v_front (c : Nat → BitVec 8) (x : BitVec 8) (n : Nat) : gf_v c x (n + 1) = gf_m (gf_v (fun m => c (m + 1)) x n) x ^^^ c 0 := by
  induction n with
  | zero => simp [gf_v, gf_sum, gf_w, gf_one, gf_zl]
  | succ n ih =>
    have e1 : gf_v c x (n + 1 + 1) = gf_v c x (n + 1) ^^^ gf_m (c (n + 1)) (gf_w x (n + 1)) := rfl
    have e2 : gf_v (fun m => c (m + 1)) x (n + 1) = gf_v (fun m => c (m + 1)) x n ^^^ gf_m (c (n + 1)) (gf_w x n) := rfl
    rw [e1, ih, e2, gf_ml, gf_assoc]
    show _ ^^^ gf_m (c (n + 1)) (gf_m (gf_w x n) x) = _
    rw [BitVec.xor_assoc, BitVec.xor_comm (c 0), ← BitVec.xor_assoc]
theorem gf_ov (c : Nat → BitVec 8) (x : BitVec 8) (K : Nat) : ∀ n, n ≤ K → gf_o c x K n = gf_v (fun m => c (K - n + m)) x n := by
  intro n
  induction n with
  | zero => intro _; rfl
  | succ n ih =>
    intro h
    rw [gf_v_front]
    show gf_m (gf_o c x K n) x ^^^ c (K - (n + 1)) = _
    rw [ih (by omega)]
    congr 3
    · funext m
      show c (K - n + m) = c (K - (n + 1) + (m + 1))
      rw [show K - (n + 1) + (m + 1) = K - n + m by omega]
theorem gf_horner (c : Nat → BitVec 8) (x : BitVec 8) (K : Nat) : gf_o c x K K = gf_v c x K := by
  rw [gf_ov c x K K (Nat.le_refl _)]
  congr 1
  funext m
  rw [Nat.sub_self, Nat.zero_add]
theorem gf_vD (c X : Nat → BitVec 8) (K i : Nat) : gf_v c (X i) K = gf_D c X K 0 i := by
  unfold gf_v gf_D
  congr 1
  funext m
  unfold gf_hm
  rw [if_neg (by omega), Nat.sub_zero, Nat.sub_zero, gf_hw]
