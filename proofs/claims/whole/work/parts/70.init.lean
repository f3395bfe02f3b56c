-- at the start the two sides go together
theorem gf_x_z : gf_x 0#8 = 0#8 := by decide
theorem by8_z (j : Nat) : by8 0 j = 0#8 := by
  unfold by8
  apply BitVec.eq_of_getLsbD_eq
  intro i hi
  simp
theorem pl8_z (j : Nat) : pl8 0#8 j = 0 := by
  unfold pl8
  have : (BitVec.setWidth 64 (0#8)) <<< (8 * j) = 0#64 := by
    apply BitVec.eq_of_getLsbD_eq
    intro i hi
    simp
  rw [this]; rfl
theorem sum_z {f : Nat → BitVec 8} (h : ∀ m, f m = 0#8) : ∀ n, gf_sum f n = 0#8 := by
  intro n
  induction n with
  | zero => rfl
  | succ n ih =>
    show gf_sum f n ^^^ f n = 0#8
    rw [ih, h]; rfl
theorem gf_m0 (b : BitVec 8) : gf_m 0#8 b = 0#8 := by
  have h := gf_ml 0#8 0#8 b
  simpa using h
theorem en8_z (K s r : Nat) : en8 K 0 s r = 0#8 := by
  unfold en8
  rw [gf_horner]
  unfold gf_v
  exact sum_z (fun m => by show gf_m (by8 0 (r * K + m)) _ = 0#8; rw [by8_z, gf_m0]) K
theorem enF_z (K s : Nat) : ∀ r, enF K 0 s r = 0 := by
  intro r
  induction r with
  | zero => rfl
  | succ r ih =>
    show enF K 0 s r ||| pl8 (en8 K 0 s r) r = 0
    rw [ih, en8_z, pl8_z]; rfl
theorem enc_z (x : fy) (s : Nat) : enc x 0 s = 0 := enF_z _ _ _
def A0 : AS := (fun _ => (0, false, 0, fun _ => false, 0, 0, 0, 0, 0, [], 0, fun _ => true), fun _ => (false, 0, [0]), fun _ _ _ => [], fun _ => 0)
theorem cnt_true (n : Nat) : cnt (fun _ => true) n = n := by
  induction n with
  | zero => rfl
  | succ n ih => rw [cnt_s, ih]; rfl
theorem inv_0 {x : fy} (hO : fO x) : Inv x 0 A0 := by
  have hQ := (quo2 x hO).2
  refine ⟨rfl, fun c hc => ?_, fun s hs => ?_, fun c s hc hs => ?_⟩
  · refine ⟨Or.inl rfl, Nat.le_refl _, okT.zero _ _, ⟨by show (0 : Int) ≤ (0 : Int32).toInt; decide, by show (0 : Int32).toInt ≤ 12 * ((0 : Nat) : Int); decide⟩, okT.zero _ _, Nat.zero_le _, (fun s h => absurd h List.not_mem_nil), List.nodup_nil, fun _ q => ?_, fun _ _ _ => ⟨by show xQ x ≤ cnt (fun _ => true) (xN x); rw [cnt_true]; exact hQ, fun _ _ _ => Int.le_refl _⟩, fun _ q => absurd (show (0 : Int32) = 3 from q) (by decide), fun _ q => absurd (show (0 : Int32) = 1 from q) (by decide)⟩
    rcases q with q | q
    · exact absurd (show (0 : Int32) = 2 from q) (by decide)
    · exact absurd (show (0 : Int32) = 3 from q) (by decide)
  · refine ⟨Nat.le_refl _, by show 1 ≤ _; omega, List.pairwise_singleton _ _, fun t ht => ?_, okT.zero _ _⟩
    rw [List.mem_singleton.mp ht]
    exact okT.zero _ _
  · exact ⟨fun b l h => absurd h List.not_mem_nil, List.nodup_nil, List.nodup_nil, by show 0 + 0 ≤ 7; decide, fun _ q => absurd rfl q⟩
theorem sim_0 {x : fy} {b : Nat} (hO : fO x) (hb : xb x ≤ b + 46 + 23 * xN x) : SIM x 0 (S0 b (xN x)) := by
  have hN : xN x ≤ 7 := hO.2.2.2.1
  refine ⟨A0, inv_0 hO, ⟨fun c hc => ?_, fun s hs => ?_, fun c s hc hs => ?_, ?_, ⟨fun r => ?_, fun r q hq => ?_, fun r j r' j' hj => ?_⟩, ⟨fun s => ?_, fun c => ?_, fun c j => ?_⟩, hb⟩, fun c hc => ?_, fun s hs => ?_, fun c s hc hs => ?_, ?_⟩
  · refine ⟨rfl, rfl, rfl, ?_, fun _ => rfl, rfl, rfl, rfl, rfl, by show (0 : Nat) = min 0 (xK x); omega, fun j hj => ?_⟩
    · show (0 : Int32) = nI (cnt (fun _ => false) (xN x))
      rw [cnt_false]; rfl
    · exact absurd (show j < 0 from hj) (by omega)
  · refine ⟨rfl, rfl, rfl, fun i hi => ?_⟩
    show (0 : Int64) = enc x 0 s
    rw [enc_z]
  · exact ⟨rel_nil, rel_nil⟩
  · show (0 : Int32) = nI (cnt (fun _ => false) (xN x))
    rw [cnt_false]; rfl
  · show (0 : Nat) ≤ 7; omega
  · exact absurd (show q < 0 from hq) (by omega)
  · exact absurd (show j < 0 from hj) (by omega)
  · show (1 : Nat) ≤ xD x + 1; omega
  · show (0 : Nat) ≤ 7; omega
  · show (0 : Nat) < 7; omega
  · refine ⟨rfl, rfl, ?_, rfl, rfl, rfl, rfl, rfl, rfl, fun q => absurd (show (0 : Int32) = 5 from q) (by decide)⟩
    show (0 : Int32) = nI (cnt (fun _ => false) (xN x))
    rw [cnt_false]; rfl
  · have h35 : mU (S0 b (xN x)) 35 0 s = 1 := by
      show (if 35 = 10 ∧ s = 3 then 1 else if 35 = 35 ∧ s < xN x then 1 else 0) = 1
      rw [if_neg (by omega), if_pos ⟨rfl, hs⟩]
    unfold Ms
    rw [h35]
    exact ⟨rfl, rfl, List.Perm.refl _, fun q hq => rfl⟩
  · exact ⟨rel_nil, rel_nil⟩
  · intro e he
    exact absurd he List.not_mem_nil
