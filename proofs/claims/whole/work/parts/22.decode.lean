-- K fragments of one block, of different servers, give the block
theorem cb_up (u : Nat → Nat) (j : Nat) (v : BitVec 8) : cb (va_up u j v.toNat) = va_up (cb u) j v := by
  funext q
  unfold cb va_up
  by_cases h : q = j
  · rw [if_pos h, if_pos h]; simp
  · rw [if_neg h, if_neg h]
section DEC
variable {c X : Nat → BitVec 8} {K : Nat}
theorem dec_A (hX : ∀ i j, i < K → j < K → i ≠ j → gf_m (X i ^^^ X j) (gf_i (X i ^^^ X j)) = 1#8) (t : Nat) (ht : 1 ≤ t) : ∀ n u, t + n ≤ K → (∀ i, i < K → cb u i = if t + n ≤ i then gf_D c X K t i else if t ≤ i then gf_D c X K (t - 1) i else gf_D c X K i i) →
    ∀ i, i < K → cb (ipA X t n u) i = if t ≤ i then gf_D c X K t i else gf_D c X K i i := by
  intro n
  induction n with
  | zero =>
    intro u hn h i hi
    show cb u i = _
    rw [h i hi]
    by_cases h1 : t ≤ i
    · rw [if_pos (by omega), if_pos h1]
    · rw [if_neg (by omega), if_neg h1, if_neg h1]
  | succ n ih =>
    intro u hn h
    refine ih _ (by omega) (fun i hi => ?_)
    rw [cb_up]
    unfold va_up
    by_cases hit : i = t + n
    · subst hit
      rw [if_pos rfl, if_pos (Nat.le_refl _)]
      have e1 := h (t + n) hi
      rw [if_neg (by omega), if_pos (by omega)] at e1
      have e2 := h (t + n - 1) (by omega)
      rw [if_neg (by omega)] at e2
      have e3 : cb u (t + n - 1) = gf_D c X K (t - 1) (t + n - 1) := by
        rw [e2]
        by_cases h1 : t ≤ t + n - 1
        · rw [if_pos h1]
        · rw [if_neg h1, show t + n - 1 = t - 1 by omega]
      rw [e1, e3]
      have := gf_Dstep c X K (t - 1) (t + n) (by omega) (gf_i (X (t + n) ^^^ X n)) (by rw [show t + n - (t - 1 + 1) = n by omega]; exact hX _ _ hi (by omega) (by omega))
      rw [show t - 1 + 1 = t by omega] at this
      exact this
    · rw [if_neg hit, h i hi]
      by_cases h1 : t + n ≤ i
      · rw [if_pos h1, if_pos (by omega)]
      · rw [if_neg h1, if_neg (by omega)]
theorem dec_B (hX : ∀ i j, i < K → j < K → i ≠ j → gf_m (X i ^^^ X j) (gf_i (X i ^^^ X j)) = 1#8) : ∀ n u, n + 1 ≤ K → (∀ i, i < K → cb u i = if K - n - 1 ≤ i then gf_D c X K (K - n - 1) i else gf_D c X K i i) → ∀ i, i < K → cb (ipB X K n u) i = gf_D c X K i i := by
  intro n
  induction n with
  | zero =>
    intro u hn h i hi
    show cb u i = _
    rw [h i hi]
    by_cases h1 : K - 0 - 1 ≤ i
    · rw [if_pos h1, show K - 0 - 1 = i by omega]
    · rw [if_neg h1]
  | succ n ih =>
    intro u hn h
    refine ih _ (by omega) (fun i hi => ?_)
    rw [dec_A hX (K - (n + 1)) (by omega) (n + 1) u (by omega) (fun j hj => ?_) i hi]
    · rw [show K - n - 1 = K - (n + 1) by omega]
    · rw [if_neg (by omega), h j hj]
      by_cases h1 : K - (n + 1) ≤ j
      · rw [if_pos h1, if_pos (by omega), show K - (n + 1) - 1 = K - (n + 1) - 1 from rfl]
      · rw [if_neg h1]
        by_cases h2 : K - (n + 1) - 1 ≤ j
        · rw [if_pos h2, show K - (n + 1) - 1 = j by omega]
        · rw [if_neg h2]
theorem dec_C (st : Nat) (hst : st + 1 ≤ K) : ∀ m u, m ≤ K - 1 - st → (∀ i, i < K → cb u i = if i < st then gf_E c X K (i + 1) i else if i < K - 1 - m then gf_E c X K st i else gf_E c X K (st + 1) i) →
    ∀ i, i < K → cb (ipC X K st m u) i = if i < st then gf_E c X K (i + 1) i else gf_E c X K st i := by
  intro m
  induction m with
  | zero =>
    intro u hm h i hi
    show cb u i = _
    rw [h i hi]
    by_cases h1 : i < st
    · rw [if_pos h1, if_pos h1]
    · rw [if_neg h1, if_neg h1]
      by_cases h2 : i < K - 1 - 0
      · rw [if_pos h2]
      · rw [if_neg h2, show i = K - 1 by omega, gf_Elast c X K _ (by omega), gf_Elast c X K _ (by omega)]
  | succ m ih =>
    intro u hm h
    refine ih _ (by omega) (fun i hi => ?_)
    rw [cb_up]
    unfold va_up
    by_cases hit : i = K - 1 - (m + 1)
    · subst hit
      rw [if_pos rfl, if_neg (by omega), if_pos (by omega)]
      have e1 := h (K - 1 - (m + 1)) hi
      rw [if_neg (by omega), if_neg (by omega)] at e1
      have e2 := h (K - 1 - (m + 1) + 1) (by omega)
      rw [if_neg (by omega), if_neg (by omega)] at e2
      rw [e1, e2]
      exact gf_Estep c X K st _
    · rw [if_neg hit, h i hi]
      by_cases h1 : i < st
      · rw [if_pos h1, if_pos h1]
      · rw [if_neg h1, if_neg h1]
        by_cases h2 : i < K - 1 - (m + 1)
        · rw [if_pos h2, if_pos (by omega)]
        · rw [if_neg h2, if_neg (by omega)]
theorem dec_D : ∀ n u, n + 1 ≤ K → (∀ i, i < K → cb u i = if i < n then gf_E c X K (i + 1) i else gf_E c X K n i) → ∀ i, i < K → cb (ipD X K n u) i = c i := by
  intro n
  induction n with
  | zero =>
    intro u hn h i hi
    show cb u i = _
    rw [h i hi, if_neg (by omega), gf_E0 c X K i hi]
  | succ n ih =>
    intro u hn h
    refine ih _ (by omega) (fun i hi => ?_)
    rw [dec_C n (by omega) (K - 1 - n) u (Nat.le_refl _) (fun j hj => ?_) i hi]
    rw [h j hj]
    by_cases h1 : j < n
    · rw [if_pos (by omega), if_pos h1]
    · rw [if_neg h1, if_neg (show ¬ j < K - 1 - (K - 1 - n) by omega)]
      by_cases h2 : j < n + 1
      · rw [if_pos h2, show j = n by omega]
      · rw [if_neg h2]
theorem dec_ip (hK : 1 ≤ K) (hX : ∀ i j, i < K → j < K → i ≠ j → gf_m (X i ^^^ X j) (gf_i (X i ^^^ X j)) = 1#8) (u : Nat → Nat) (h : ∀ i, i < K → cb u i = gf_v c (X i) K) : ∀ i, i < K → cb (ipol X K u) i = c i := by
  unfold ipol
  refine dec_D (K - 1) _ (by omega) (fun i hi => ?_)
  rw [dec_B hX (c := c) (K - 1) u (by omega) (fun j hj => ?_) i hi]
  · rw [gf_DE]
    by_cases h1 : i < K - 1
    · rw [if_pos h1]
    · rw [if_neg h1, show i = K - 1 by omega, gf_Elast c X K _ (by omega), gf_Elast c X K _ (by omega)]
  · rw [if_pos (by omega), show K - (K - 1) - 1 = 0 by omega, h j hj, gf_vD]
end DEC
theorem by8_enF (K : Nat) (w : Int64) (s : Nat) : ∀ n j, j < 8 → by8 (enF K w s n) j = if j < n then en8 K w s j else 0#8 := by
  intro n
  induction n with
  | zero => intro j hj; rw [if_neg (by omega)]; exact by8_0 j
  | succ n ih =>
    intro j hj
    show by8 (enF K w s n ||| pl8 (en8 K w s n) n) j = _
    rw [by8_or, ih j hj, by8_pl _ hj]
    by_cases h1 : j < n
    · rw [if_pos h1, if_neg (by omega), if_pos (by omega)]; simp
    · rw [if_neg h1]
      by_cases h2 : n = j
      · subst h2; rw [if_pos rfl, if_pos (by omega)]; simp
      · rw [if_neg h2, if_neg (by omega)]; simp
theorem cb_cfil (S : fm) (c r : Nat) (u : Nat → Nat) : ∀ n j, j < n → cb (cfil S c r n u) j = by8 (mJ S 9 c j) r := by
  intro n
  induction n with
  | zero => intro j hj; omega
  | succ n ih =>
    intro j hj
    show cb (va_up (cfil S c r n u) n (by8 (mJ S 9 c n) r).toNat) j = _
    rw [cb_up]
    unfold va_up
    by_cases h : j = n
    · rw [if_pos h, h]
    · rw [if_neg h]; exact ih j (by omega)
theorem by8_dblk (K r : Nat) (u : Nat → Nat) (w : Int64) : ∀ n j, j < 8 → by8 (dblk K r u n w) j = by8 w j ||| (if r * K ≤ j ∧ j < r * K + n then cb u (j - r * K) else 0#8) := by
  intro n
  induction n with
  | zero => intro j hj; rw [if_neg (by omega)]; simp [dblk]
  | succ n ih =>
    intro j hj
    show by8 (dblk K r u n w ||| pl8 (cb u n) (r * K + n)) j = _
    rw [by8_or, ih j hj, by8_pl _ hj]
    by_cases h1 : r * K ≤ j ∧ j < r * K + n
    · rw [if_pos h1, if_neg (by omega), if_pos (by omega)]; simp
    · rw [if_neg h1]
      by_cases h2 : r * K + n = j
      · rw [if_pos h2, if_pos (by omega), show j - r * K = n by omega]; simp
      · rw [if_neg h2, if_neg (by omega)]; simp
theorem xR_facts (x : fy) (hO : fO x) : xR x ≤ 8 ∧ 8 ≤ xR x * xK x ∧ 1 ≤ xR x := by
  obtain ⟨-, -, h1, h2, h3, h4, -⟩ := hO
  unfold xR
  have h : xK x = 1 ∨ xK x = 2 ∨ xK x = 3 ∨ xK x = 4 ∨ xK x = 5 ∨ xK x = 6 ∨ xK x = 7 := by omega
  rcases h with h | h | h | h | h | h | h <;> rw [h] <;> decide
theorem pts_inv (S : fm) (c K : Nat) (h7 : ∀ j, j < K → mU S 8 c j < 7) (hd : ∀ i j, i < K → j < K → i ≠ j → mU S 8 c i ≠ mU S 8 c j) : ∀ i j, i < K → j < K → i ≠ j → gf_m (pts S c i ^^^ pts S c j) (gf_i (pts S c i ^^^ pts S c j)) = 1#8 := by
  intro i j hi hj hij
  have h1 := h7 i hi
  have h2 := h7 j hj
  have h3 := hd i j hi hj hij
  have key : ∀ a, a < 7 → ∀ b, b < 7 → a ≠ b → gf_m (BitVec.ofNat 8 (a + 1) ^^^ BitVec.ofNat 8 (b + 1)) (gf_i (BitVec.ofNat 8 (a + 1) ^^^ BitVec.ofNat 8 (b + 1))) = 1#8 := by decide +kernel
  exact key _ h1 _ h2 h3
theorem dec_ok (x : fy) (S : fm) (c : Nat) (w : Int64) (hO : fO x) (h7 : ∀ j, j < xK x → mU S 8 c j < 7) (hd : ∀ i j, i < xK x → j < xK x → i ≠ j → mU S 8 c i ≠ mU S 8 c j) (hf : ∀ j, j < xK x → mJ S 9 c j = enc x w (mU S 8 c j)) : decW x S c (xR x) = w := by
  obtain ⟨hR8, hRK, hR1⟩ := xR_facts x hO
  have hK1 : 1 ≤ xK x := hO.2.2.2.2.1
  have key : ∀ r, r ≤ xR x → ∀ j, j < 8 → by8 (decW x S c r) j = if j < r * xK x then by8 w j else 0#8 := by
    intro r
    induction r with
    | zero => intro _ j hj; rw [if_neg (by omega)]; exact by8_0 j
    | succ r ih =>
      intro hr j hj
      show by8 (dblk (xK x) r (decU x S c (r + 1)) (xK x) (decW x S c r)) j = _
      rw [by8_dblk _ _ _ _ _ j hj, ih (by omega) j hj, Nat.succ_mul]
      have hcol : ∀ i, i < xK x → cb (decU x S c (r + 1)) i = by8 w (r * xK x + i) := by
        show ∀ i, i < xK x → cb (ipol (pts S c) (xK x) (cfil S c r (xK x) (decU x S c r))) i = _
        refine dec_ip hK1 (pts_inv S c (xK x) h7 hd) _ (fun i hi => ?_)
        rw [cb_cfil S c r _ _ i hi, hf i hi]
        show by8 (enF (xK x) w (mU S 8 c i) (xR x)) r = _
        rw [by8_enF _ _ _ _ r (by omega), if_pos (by omega)]
        exact gf_horner _ _ _
      by_cases h1 : j < r * xK x
      · rw [if_pos h1, if_neg (by omega), if_pos (by omega)]; simp
      · rw [if_neg h1]
        by_cases h2 : j < r * xK x + xK x
        · rw [if_pos (by omega), if_pos h2, hcol _ (by omega), show r * xK x + (j - r * xK x) = j by omega]; simp
        · rw [if_neg (by omega), if_neg h2]; simp
  refine by8_ext (fun j hj => ?_)
  rw [key (xR x) (Nat.le_refl _) j hj, if_pos (by omega)]
