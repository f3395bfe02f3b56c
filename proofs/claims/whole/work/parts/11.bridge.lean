-- Java's numbers and bytes
theorem by_256 {P : BitVec 8 → Prop} (h : ∀ n, n < 256 → P (BitVec.ofNat 8 n)) (v : BitVec 8) : P v := by
  have := h v.toNat v.isLt
  simpa using this
theorem bx_x (a b : Nat) : nI a ^^^ nI b = nI (a ^^^ b) := by
  apply Int32.toBitVec_inj.1
  show BitVec.ofNat 32 a ^^^ BitVec.ofNat 32 b = BitVec.ofNat 32 (a ^^^ b)
  apply BitVec.eq_of_getLsbD_eq
  intro i hi
  simp [hi]
theorem bI_xor (u v : BitVec 8) : bI u ^^^ bI v = bI (u ^^^ v) := by
  unfold bI
  rw [bx_x, BitVec.toNat_xor]
theorem bI_0 : bI 0#8 = 0 := by decide +kernel
theorem bI_1 : bI 1#8 = 1 := by decide +kernel
theorem bI_lt (v : BitVec 8) : v.toNat < 256 := v.isLt
theorem bI_inj {u v : BitVec 8} (h : bI u = bI v) : u = v := by
  unfold bI at h
  have hu := u.isLt
  have hv := v.isLt
  exact BitVec.eq_of_toNat_eq ((nI_eq (by omega) (by omega)).mp h)
theorem bI_of {n : Nat} (h : n < 256) : nI n = bI (BitVec.ofNat 8 n) := by
  unfold bI
  rw [BitVec.toNat_ofNat, Nat.mod_eq_of_lt h]
-- times: one bit on
theorem bt_sh0 : ∀ n, n < 256 → ((bI (BitVec.ofNat 8 n) <<< ((1 : Int32) &&& 31)) &&& 256 = 0 → bI (BitVec.ofNat 8 n) <<< ((1 : Int32) &&& 31) = bI (gf_x (BitVec.ofNat 8 n))) ∧ (¬ (bI (BitVec.ofNat 8 n) <<< ((1 : Int32) &&& 31)) &&& 256 = 0 → (bI (BitVec.ofNat 8 n) <<< ((1 : Int32) &&& 31)) ^^^ 285 = bI (gf_x (BitVec.ofNat 8 n))) := by decide +kernel
theorem bt_sh (v : BitVec 8) : ((bI v <<< ((1 : Int32) &&& 31)) &&& 256 = 0 → bI v <<< ((1 : Int32) &&& 31) = bI (gf_x v)) ∧ (¬ (bI v <<< ((1 : Int32) &&& 31)) &&& 256 = 0 → (bI v <<< ((1 : Int32) &&& 31)) ^^^ 285 = bI (gf_x v)) := by_256 (P := fun v => ((bI v <<< ((1 : Int32) &&& 31)) &&& 256 = 0 → bI v <<< ((1 : Int32) &&& 31) = bI (gf_x v)) ∧ (¬ (bI v <<< ((1 : Int32) &&& 31)) &&& 256 = 0 → (bI v <<< ((1 : Int32) &&& 31)) ^^^ 285 = bI (gf_x v))) bt_sh0 v
theorem bt_bit0 : ∀ n, n < 256 → ∀ i, i < 8 → ((bI (BitVec.ofNat 8 n) >>> (nI i &&& 31)) &&& 1 = 0 ↔ (BitVec.ofNat 8 n).getLsbD i = false) := by decide +kernel
theorem bt_bit (v : BitVec 8) {i : Nat} (hi : i < 8) : (bI v >>> (nI i &&& 31)) &&& 1 = 0 ↔ v.getLsbD i = false := by_256 (P := fun v => ∀ i, i < 8 → ((bI v >>> (nI i &&& 31)) &&& 1 = 0 ↔ v.getLsbD i = false)) bt_bit0 v i hi
theorem gf_s1 (i : Nat) (a b : BitVec 8) : gf_s (i + 1) a b = gf_s i a b ^^^ (if b.getLsbD i then gf_p i a else 0#8) := rfl
theorem gf_st {i : Nat} {a b : BitVec 8} (h : b.getLsbD i = true) : gf_s (i + 1) a b = gf_s i a b ^^^ gf_p i a := by rw [gf_s1, h]; rfl
theorem gf_sf {i : Nat} {a b : BitVec 8} (h : b.getLsbD i = false) : gf_s (i + 1) a b = gf_s i a b := by rw [gf_s1, h]; simp
-- bytes of a long
def by8 (w : Int64) (j : Nat) : BitVec 8 := (w.toBitVec >>> (8 * j)).setWidth 8
def pl8 (v : BitVec 8) (j : Nat) : Int64 := Int64.ofBitVec ((v.setWidth 64) <<< (8 * j))
theorem by8_bit (w : Int64) (j i : Nat) (hi : i < 8) : (by8 w j).getLsbD i = w.toBitVec.getLsbD (8 * j + i) := by
  unfold by8
  simp [hi]
theorem by8_big (w : Int64) {j : Nat} (hj : 8 ≤ j) : by8 w j = 0#8 := by
  apply BitVec.eq_of_getLsbD_eq
  intro i hi
  rw [by8_bit w j i hi, BitVec.getLsbD_of_ge _ _ (by omega)]
  simp
theorem by8_ext {a b : Int64} (h : ∀ j, j < 8 → by8 a j = by8 b j) : a = b := by
  apply Int64.toBitVec_inj.1
  apply BitVec.eq_of_getLsbD_eq
  intro i hi
  have h1 := congrArg (fun v => v.getLsbD (i % 8)) (h (i / 8) (by omega))
  simp only [by8_bit _ _ _ (Nat.mod_lt i (by decide : 8 > 0))] at h1
  rw [show 8 * (i / 8) + i % 8 = i by omega] at h1
  exact h1
theorem by8_or (a b : Int64) (j : Nat) : by8 (a ||| b) j = by8 a j ||| by8 b j := by
  apply BitVec.eq_of_getLsbD_eq
  intro i hi
  rw [by8_bit _ _ _ hi, BitVec.getLsbD_or, by8_bit _ _ _ hi, by8_bit _ _ _ hi, Int64.toBitVec_or, BitVec.getLsbD_or]
theorem by8_0 (j : Nat) : by8 0 j = 0#8 := by
  apply BitVec.eq_of_getLsbD_eq
  intro i hi
  rw [by8_bit _ _ _ hi]
  simp
theorem by8_pl (v : BitVec 8) {i j : Nat} (hj : j < 8) : by8 (pl8 v i) j = if i = j then v else 0#8 := by
  apply BitVec.eq_of_getLsbD_eq
  intro q hq
  rw [by8_bit _ _ _ hq]
  show ((v.setWidth 64) <<< (8 * i)).getLsbD (8 * j + q) = _
  rw [BitVec.getLsbD_shiftLeft]
  by_cases h : i = j
  · subst h
    rw [if_pos rfl]
    simp [show 8 * i + q < 64 by omega, show ¬ 8 * i + q < 8 * i by omega, show 8 * i + q - 8 * i = q by omega, show q < 64 by omega]
  · rw [if_neg h]
    by_cases h2 : 8 * j + q < 8 * i
    · simp [h2]
    · rw [BitVec.getLsbD_setWidth, BitVec.getLsbD_of_ge v _ (by omega)]
      simp
theorem by8_sh0 : ∀ j, j < 8 → ((8 : Int32) * nI j).toInt64.toUInt64 &&& Int64.toUInt64 63 = UInt64.ofNat (8 * j) := by decide +kernel
theorem by8_sh1 : ∀ j, j < 8 → ((8 : Int32) * nI j).toInt64 &&& 63 = lN (8 * j) := by decide +kernel
theorem by8_255 : ∀ i, i < 32 → (255 : Int32).toBitVec.getLsbD i = decide (i < 8) := by decide +kernel
theorem by8_255l : ∀ i, i < 64 → (255 : Int64).toBitVec.getLsbD i = decide (i < 8) := by decide +kernel
theorem bI_bit (v : BitVec 8) {i : Nat} (hi : i < 32) : (bI v).toBitVec.getLsbD i = v.getLsbD i := by
  show (BitVec.ofNat 32 v.toNat).getLsbD i = v.toNat.testBit i
  rw [BitVec.getLsbD_ofNat]
  simp [hi]
theorem by8_ushr (w : Int64) {k : Nat} (hk : k < 64) : (w.toUInt64 >>> UInt64.ofNat k).toInt64.toBitVec = w.toBitVec >>> k := by
  apply BitVec.eq_of_toNat_eq
  show (w.toUInt64 >>> UInt64.ofNat k).toNat = _
  have h1 : (UInt64.ofNat k).toNat = k := by
    show (BitVec.ofNat 64 k).toNat = k
    rw [BitVec.toNat_ofNat, Nat.mod_eq_of_lt (by omega)]
  rw [UInt64.toNat_shiftRight, h1, Nat.mod_eq_of_lt hk, BitVec.toNat_ushiftRight]
  rfl
/-- the program's byteAt -/
theorem by8_at (w : Int64) {j : Nat} (hj : j < 8) : (w.toUInt64 >>> (((8 : Int32) * nI j).toInt64.toUInt64 &&& Int64.toUInt64 63)).toInt64.toInt32 &&& 255 = bI (by8 w j) := by
  rw [by8_sh0 j hj]
  apply Int32.toBitVec_inj.1
  apply BitVec.eq_of_getLsbD_eq
  intro i hi
  rw [bI_bit _ hi, Int32.toBitVec_and, BitVec.getLsbD_and, by8_255 i hi, Int64.toBitVec_toInt32, by8_ushr w (by omega)]
  by_cases h8 : i < 8
  · rw [by8_bit w j i h8, BitVec.getLsbD_signExtend, BitVec.getLsbD_ushiftRight]
    simp [h8, hi, show i < 64 by omega]
  · rw [BitVec.getLsbD_of_ge (by8 w j) i (by omega)]
    simp [h8]
/-- the program's placed -/
theorem pl8_at (v : BitVec 8) {j : Nat} (hj : j < 8) : (bI v).toInt64 <<< (((8 : Int32) * nI j).toInt64 &&& 63) = pl8 v j := by
  rw [by8_sh1 j hj]
  apply Int64.toBitVec_inj.1
  rw [Int64.toBitVec_shiftLeft]
  have e1 : (bI v).toInt64.toBitVec = v.setWidth 64 := by
    have h : (bI v).toInt64 = lN v.toNat := nI_l (by have := v.isLt; omega)
    rw [h]
    show BitVec.ofNat 64 v.toNat = _
    apply BitVec.eq_of_toNat_eq
    rw [BitVec.toNat_ofNat, BitVec.toNat_setWidth]
  have e2 : ∀ j, j < 8 → ((lN (8 * j)).toBitVec.smod 64#64) = BitVec.ofNat 64 (8 * j) := by decide +kernel
  rw [e1]
  show (BitVec.setWidth 64 v) <<< ((lN (8 * j)).toBitVec.smod 64#64) = BitVec.setWidth 64 v <<< (8 * j)
  rw [e2 j hj]
  apply BitVec.eq_of_toNat_eq
  rw [BitVec.shiftLeft_eq', BitVec.toNat_ofNat, Nat.mod_eq_of_lt (show 8 * j < 2 ^ 64 by omega)]
/-- the reference's byte -/
theorem by8_mod (w : Int64) {j : Nat} (hj : j < 8) : ((w >>> (((8 : Int32) * nI j).toInt64 &&& 63)) &&& 255).toInt32 = bI (by8 w j) := by
  rw [by8_sh1 j hj]
  apply Int32.toBitVec_inj.1
  apply BitVec.eq_of_getLsbD_eq
  intro i hi
  have e2 : ∀ j, j < 8 → ((lN (8 * j)).toBitVec.smod 64#64).toNat = 8 * j := by decide +kernel
  rw [bI_bit _ hi, Int64.toBitVec_toInt32, Int64.toBitVec_and, Int64.toBitVec_shiftRight]
  by_cases h8 : i < 8
  · rw [by8_bit w j i h8]
    rw [BitVec.getLsbD_signExtend, BitVec.getLsbD_and, by8_255l i (by omega), BitVec.sshiftRight_eq']
    rw [show ((lN (8 * j)).toBitVec.smod 64).toNat = 8 * j from e2 j hj, BitVec.getLsbD_sshiftRight]
    simp [h8, hi, show i < 64 by omega, show 8 * j + i < 64 by omega, show ¬ 64 ≤ i by omega]
  · rw [BitVec.getLsbD_of_ge (by8 w j) i (by omega), BitVec.getLsbD_signExtend, BitVec.getLsbD_and, by8_255l i (by omega)]
    simp [h8, show i < 64 by omega]
theorem pl8_big (v : BitVec 8) {j : Nat} (hj : 8 ≤ j) : pl8 v j = 0 := by
  refine by8_ext (fun i hi => ?_)
  rw [by8_pl v hi, if_neg (by omega), by8_0]
