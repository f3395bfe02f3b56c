-- printed by wip/whole/gen/c_start.py: the making, and the law from its start on
set_option maxHeartbeats 4000000 in
set_option maxRecDepth 100000 in
theorem fP_made {D : va_G} {g : Nat → ClassId} {b N K E : Nat} {w : Nat → Option va_E} {H : Heap} (h3 : 3 ≤ N) (h7 : N ≤ 7) (hK1 : 1 ≤ K) (hKN : K ≤ N) (hE : E ≤ 3) (hP : gP D b (b + 46 + 23 * N) w H) (hx : ∀ q, b ≤ q → q < b + 22 + 23 * N → w q = wd (x0 D g b N K E) (S0 b N) q) (hm : w (b + 22 + 23 * N) = some (.inr (6, [.int (nI N), .int (nI K), .int (nI E), .ref (b + 23 + 23 * N + 0), .ref (b + 23 + 23 * N + 1), .ref (b + 23 + 23 * N + 2), .ref (b + 23 + 23 * N + 3), .ref (b + 23 + 23 * N + 4), .ref (b + 23 + 23 * N + 5), .ref (b + 23 + 23 * N + 6), .ref (b + 23 + 23 * N + 7), .ref (b + 23 + 23 * N + 8), .ref (b + 23 + 23 * N + 9), .ref (b + 23 + 23 * N + 10), .ref (b + 23 + 23 * N + 11), .ref (b + 23 + 23 * N + 12), .ref (b + 23 + 23 * N + 13), .ref (b + 23 + 23 * N + 14), .int 0, .ref (b + 23 + 23 * N + 15), .ref (b + 23 + 23 * N + 16), .ref (b + 23 + 23 * N + 17), .ref (b + 23 + 23 * N + 18), .ref (b + 23 + 23 * N + 19), .ref (b + 23 + 23 * N + 20), .ref (b + 23 + 23 * N + 21), .ref (b + 23 + 23 * N + 22)]))) (h12 : w (b + 23 + 23 * N + 12) = some (.inl (g 0, 7, .inl (fun j => if j < N then 1 else 0)))) (hr : ∀ j, j < 23 → j ≠ 12 → w (b + 23 + 23 * N + j) = some (cmz g j)) : fP (x0 D g b N K E) (S0 b N) H := by
  have key : ∀ a, b ≤ a → a < b + 46 + 23 * N → w a = wd (x0 D g b N K E) (S0 b N) a := by
    intro a h1 h2
    by_cases c1 : a < b + 22 + 23 * N
    · exact hx a h1 c1
    · by_cases c2 : a = b + 22 + 23 * N
      · subst c2
        exact hm.trans (((show fv (x0 D g b N K E) 16 0 from lay_vM (b := b) (N := N) h3 h7).at (S0 b N)).cell).symm
      · obtain ⟨j, rfl⟩ : ∃ j, a = b + 23 + 23 * N + j := ⟨a - (b + 23 + 23 * N), by omega⟩
        have hj : j < 23 := by omega
        match j, hj with
        | 0, _ => exact (hr 0 (by omega) (by omega)).trans (((show fv (x0 D g b N K E) 23 0 from lay_vA (b := b) (N := N) (k := 23) (by omega) (by omega) h3 h7).at (S0 b N)).cell).symm
        | 1, _ => exact (hr 1 (by omega) (by omega)).trans (((show fv (x0 D g b N K E) 24 0 from lay_vA (b := b) (N := N) (k := 24) (by omega) (by omega) h3 h7).at (S0 b N)).cell).symm
        | 2, _ => exact (hr 2 (by omega) (by omega)).trans (((show fv (x0 D g b N K E) 25 0 from lay_vA (b := b) (N := N) (k := 25) (by omega) (by omega) h3 h7).at (S0 b N)).cell).symm
        | 3, _ => exact (hr 3 (by omega) (by omega)).trans (((show fv (x0 D g b N K E) 26 0 from lay_vA (b := b) (N := N) (k := 26) (by omega) (by omega) h3 h7).at (S0 b N)).cell).symm
        | 4, _ => exact (hr 4 (by omega) (by omega)).trans (((show fv (x0 D g b N K E) 27 0 from lay_vA (b := b) (N := N) (k := 27) (by omega) (by omega) h3 h7).at (S0 b N)).cell).symm
        | 5, _ => exact (hr 5 (by omega) (by omega)).trans (((show fv (x0 D g b N K E) 28 0 from lay_vA (b := b) (N := N) (k := 28) (by omega) (by omega) h3 h7).at (S0 b N)).cell).symm
        | 6, _ => exact (hr 6 (by omega) (by omega)).trans (((show fv (x0 D g b N K E) 29 0 from lay_vA (b := b) (N := N) (k := 29) (by omega) (by omega) h3 h7).at (S0 b N)).cell).symm
        | 7, _ => exact (hr 7 (by omega) (by omega)).trans (((show fv (x0 D g b N K E) 30 0 from lay_vA (b := b) (N := N) (k := 30) (by omega) (by omega) h3 h7).at (S0 b N)).cell).symm
        | 8, _ => exact (hr 8 (by omega) (by omega)).trans (((show fv (x0 D g b N K E) 31 0 from lay_vA (b := b) (N := N) (k := 31) (by omega) (by omega) h3 h7).at (S0 b N)).cell).symm
        | 9, _ => exact (hr 9 (by omega) (by omega)).trans (((show fv (x0 D g b N K E) 32 0 from lay_vA (b := b) (N := N) (k := 32) (by omega) (by omega) h3 h7).at (S0 b N)).cell).symm
        | 10, _ => exact (hr 10 (by omega) (by omega)).trans (((show fv (x0 D g b N K E) 33 0 from lay_vA (b := b) (N := N) (k := 33) (by omega) (by omega) h3 h7).at (S0 b N)).cell).symm
        | 11, _ => exact (hr 11 (by omega) (by omega)).trans (((show fv (x0 D g b N K E) 34 0 from lay_vA (b := b) (N := N) (k := 34) (by omega) (by omega) h3 h7).at (S0 b N)).cell).symm
        | 12, _ =>
          have T := ((show fv (x0 D g b N K E) 35 0 from lay_vA (b := b) (N := N) (k := 35) (by omega) (by omega) h3 h7).at (S0 b N)).cell
          refine h12.trans (Eq.trans ?_ T.symm)
          show some (Sum.inl (g 0, 7, Sum.inl (fun j => if j < N then (1 : Int32) else 0))) = some (Sum.inl (g 0, 7, Sum.inl (fun j => nI (mU (S0 b N) 35 0 j))))
          have : (fun j => if j < N then (1 : Int32) else 0) = (fun j => nI (mU (S0 b N) 35 0 j)) := by
            funext j
            show _ = nI (if 35 = 10 ∧ j = 3 then 1 else if 35 = 35 ∧ j < N then 1 else 0)
            rw [if_neg (show ¬ (35 = 10 ∧ j = 3) by omega)]
            by_cases q : j < N
            · rw [if_pos q, if_pos ⟨rfl, q⟩]; rfl
            · rw [if_neg q, if_neg (fun z => q z.2)]; rfl
          rw [this]
        | 13, _ => exact (hr 13 (by omega) (by omega)).trans (((show fv (x0 D g b N K E) 36 0 from lay_vA (b := b) (N := N) (k := 36) (by omega) (by omega) h3 h7).at (S0 b N)).cell).symm
        | 14, _ => exact (hr 14 (by omega) (by omega)).trans (((show fv (x0 D g b N K E) 37 0 from lay_vA (b := b) (N := N) (k := 37) (by omega) (by omega) h3 h7).at (S0 b N)).cell).symm
        | 15, _ => exact (hr 15 (by omega) (by omega)).trans (((show fv (x0 D g b N K E) 39 0 from lay_vB (b := b) (N := N) (k := 39) (by omega) (by omega) h3 h7).at (S0 b N)).cell).symm
        | 16, _ => exact (hr 16 (by omega) (by omega)).trans (((show fv (x0 D g b N K E) 40 0 from lay_vB (b := b) (N := N) (k := 40) (by omega) (by omega) h3 h7).at (S0 b N)).cell).symm
        | 17, _ => exact (hr 17 (by omega) (by omega)).trans (((show fv (x0 D g b N K E) 41 0 from lay_vB (b := b) (N := N) (k := 41) (by omega) (by omega) h3 h7).at (S0 b N)).cell).symm
        | 18, _ => exact (hr 18 (by omega) (by omega)).trans (((show fv (x0 D g b N K E) 42 0 from lay_vB (b := b) (N := N) (k := 42) (by omega) (by omega) h3 h7).at (S0 b N)).cell).symm
        | 19, _ => exact (hr 19 (by omega) (by omega)).trans (((show fv (x0 D g b N K E) 43 0 from lay_vB (b := b) (N := N) (k := 43) (by omega) (by omega) h3 h7).at (S0 b N)).cell).symm
        | 20, _ => exact (hr 20 (by omega) (by omega)).trans (((show fv (x0 D g b N K E) 44 0 from lay_vB (b := b) (N := N) (k := 44) (by omega) (by omega) h3 h7).at (S0 b N)).cell).symm
        | 21, _ => exact (hr 21 (by omega) (by omega)).trans (((show fv (x0 D g b N K E) 45 0 from lay_vB (b := b) (N := N) (k := 45) (by omega) (by omega) h3 h7).at (S0 b N)).cell).symm
        | 22, _ => exact (hr 22 (by omega) (by omega)).trans (((show fv (x0 D g b N K E) 46 0 from lay_vB (b := b) (N := N) (k := 46) (by omega) (by omega) h3 h7).at (S0 b N)).cell).symm
        | n + 23, h => exact absurd h (by omega)
  refine ⟨x0_O D g b N K E h3 h7 hK1 hKN hE, Nat.le_refl _, hP.1, fun a e hwd => ?_⟩
  have hin : b ≤ a ∧ a < b + 46 + 23 * N := by
    unfold wd at hwd
    cases q : xl (x0 D g b N K E) a with
    | some ki =>
      obtain ⟨k, i⟩ := ki
      exact ⟨(lay_ok h7 q).2.1, (lay_ok h7 q).2.2.1⟩
    | none =>
      rw [q] at hwd
      simp only [] at hwd
      split at hwd
      · rename_i z
        have z1 : b + 46 + 23 * N ≤ a ∧ a < b + 46 + 23 * N := z
        omega
      · cases hwd
  exact (hP.2.2 a e (by rw [key a hin.1 hin.2]; exact hwd)).2
