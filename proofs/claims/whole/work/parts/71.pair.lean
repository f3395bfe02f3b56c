-- printed by wip/whole/gen/c_pair.py: the same call of register and reference gives the same answer
theorem mL_fr {S T : fm} (h : sk S T 16) : mL T = mL S := by unfold mL; rw [h.2.2.2.2]
theorem ix_cases {j : Int32} {n : Nat} (hn : n < 2 ^ 31) : (j < 0 ∨ nI n ≤ j) ∨ ∃ i, i < n ∧ j = nI i := by
  rcases pk_ix j hn with h | h | h
  · exact Or.inl (Or.inl h)
  · exact Or.inl (Or.inr h)
  · exact Or.inr h
theorem pr_write (l : Launch) {x : fy} {S : fm} {k : Nat} (hO : fO x) (hL : fL x) (hM : fM x) (hk : k + 2 ≤ 100000) (h : SIM x k S) (z : Int32) (w : Int64) : ∃ (r : Int32) (S1 S2 : fm), Met l mn_X_write (gw_ws mn_X_write cb_X_write 5 (some .int)) ({ frames := 4, cells := 7, slots := 42, locals := 98 } : Room) (fPc x S [.ref (xa x 0 0), .int z, .long w]) (fQi x S1 r) 7 42 (fun q => xs x ≤ q) ∧ Met l mn_M_write (gw_ws mn_M_write cb_M_write 5 (some .int)) ({ frames := 3, cells := 0, slots := 0, locals := 70 } : Room) (fPc x S1 [.ref (xa x 16 0), .int z, .long w]) (fQi x S2 r) 0 0 (fun q => xs x ≤ q) ∧ SIM x (k + 2) S2 := by
  have hN : xN x ≤ 7 := hO.2.2.2.1
  have hLL := op_L hO h
  cases e : q_cl z with
  | false => exact ⟨_, _, _, ct_X_write_no l x S hL z w e, ct_M_write_no l x S hM z w e, h.mono (by omega)⟩
  | true =>
    obtain ⟨c, hc, rfl⟩ := q_cl_of e
    have o := op_write hO hc w h
    refine ⟨_, _, _, ct_X_write l x S hL c w hc hO (op_fI h), ?_, o.2.mono (by omega)⟩
    rw [o.1]
    exact ct_M_write l x _ hM c w hc hO (by rw [mL_fr (sk_write x S c w ⟨by omega, by omega, by omega, by omega⟩)]; omega)
theorem pr_read (l : Launch) {x : fy} {S : fm} {k : Nat} (hO : fO x) (hL : fL x) (hM : fM x) (hk : k + 2 ≤ 100000) (h : SIM x k S) (z : Int32) : ∃ (r : Int32) (S1 S2 : fm), Met l mn_X_read (gw_ws mn_X_read cb_X_read 3 (some .int)) ({ frames := 4, cells := 7, slots := 42, locals := 98 } : Room) (fPc x S [.ref (xa x 0 0), .int z]) (fQi x S1 r) 7 42 (fun q => xs x ≤ q) ∧ Met l mn_M_read (gw_ws mn_M_read cb_M_read 3 (some .int)) ({ frames := 3, cells := 0, slots := 0, locals := 70 } : Room) (fPc x S1 [.ref (xa x 16 0), .int z]) (fQi x S2 r) 0 0 (fun q => xs x ≤ q) ∧ SIM x (k + 2) S2 := by
  have hN : xN x ≤ 7 := hO.2.2.2.1
  have hLL := op_L hO h
  cases e : q_cl z with
  | false => exact ⟨_, _, _, ct_X_read_no l x S hL z e, ct_M_read_no l x S hM z e, h.mono (by omega)⟩
  | true =>
    obtain ⟨c, hc, rfl⟩ := q_cl_of e
    have o := op_read hO hc h
    refine ⟨_, _, _, ct_X_read l x S hL c hc hO (op_fI h), ?_, o.2.mono (by omega)⟩
    rw [o.1]
    exact ct_M_read l x _ hM c hc hO (by rw [mL_fr (sk_read x S c ⟨by omega, by omega, by omega, by omega⟩)]; omega)
theorem pr_again (l : Launch) {x : fy} {S : fm} {k : Nat} (hO : fO x) (hL : fL x) (hM : fM x) (hk : k + 2 ≤ 100000) (h : SIM x k S) (z : Int32) : ∃ (r : Int32) (S1 S2 : fm), Met l mn_X_again (gw_ws mn_X_again cb_X_again 3 (some .int)) ({ frames := 4, cells := 7, slots := 42, locals := 98 } : Room) (fPc x S [.ref (xa x 0 0), .int z]) (fQi x S1 r) 7 42 (fun q => xs x ≤ q) ∧ Met l mn_M_again (gw_ws mn_M_again cb_M_again 2 (some .int)) ({ frames := 2, cells := 0, slots := 0, locals := 49 } : Room) (fPc x S1 [.ref (xa x 16 0), .int z]) (fQi x S2 r) 0 0 (fun q => xs x ≤ q) ∧ SIM x (k + 2) S2 := by
  have hN : xN x ≤ 7 := hO.2.2.2.1
  have hLL := op_L hO h
  cases e : q_cl z with
  | false => exact ⟨_, _, _, ct_X_again_no l x S hL z e, ct_M_again_no l x S hM z e, h.mono (by omega)⟩
  | true =>
    obtain ⟨c, hc, rfl⟩ := q_cl_of e
    have o := op_again hO hc h
    refine ⟨_, _, _, ct_X_again l x S hL c hc hO (op_fI h), ?_, o.2.mono (by omega)⟩
    rw [o.1]
    exact ct_M_again l x _ hM c hc hO (by rw [mL_fr (sk_again x S c ⟨by omega, by omega, by omega, by omega⟩)]; omega)
theorem pr_stop (l : Launch) {x : fy} {S : fm} {k : Nat} (hO : fO x) (hL : fL x) (hM : fM x) (hk : k + 2 ≤ 100000) (h : SIM x k S) (z : Int32) : ∃ (r : Int32) (S1 S2 : fm), Met l mn_X_stop (gw_ws mn_X_stop cb_X_stop 2 (some .boolean)) ({ frames := 1, cells := 0, slots := 0, locals := 21 } : Room) (fPc x S [.ref (xa x 0 0), .int z]) (fQi x S1 r) 0 0 (fun q => xs x ≤ q) ∧ Met l mn_M_stop (gw_ws mn_M_stop cb_M_stop 2 (some .boolean)) ({ frames := 1, cells := 0, slots := 0, locals := 21 } : Room) (fPc x S1 [.ref (xa x 16 0), .int z]) (fQi x S2 r) 0 0 (fun q => xs x ≤ q) ∧ SIM x (k + 2) S2 := by
  have hN : xN x ≤ 7 := hO.2.2.2.1
  have hLL := op_L hO h
  cases e : q_cl z with
  | false => exact ⟨_, _, _, ct_X_stop_no l x S hL z e, ct_M_stop_no l x S hM z e, h.mono (by omega)⟩
  | true =>
    obtain ⟨c, hc, rfl⟩ := q_cl_of e
    have o := op_stop hc h
    refine ⟨_, _, _, ct_X_stop l x S hL c hc, ?_, o.2.mono (by omega)⟩
    rw [o.1]
    exact ct_M_stop l x _ hM c hc
theorem pr_phase (l : Launch) {x : fy} {S : fm} {k : Nat} (hO : fO x) (hL : fL x) (hM : fM x) (hk : k + 2 ≤ 100000) (h : SIM x k S) (z : Int32) : ∃ (r : Int32) (S1 S2 : fm), Met l mn_X_phase (gw_ws mn_X_phase cb_X_phase 2 (some .int)) ({ frames := 1, cells := 0, slots := 0, locals := 21 } : Room) (fPc x S [.ref (xa x 0 0), .int z]) (fQi x S1 r) 0 0 (fun q => xs x ≤ q) ∧ Met l mn_M_phase (gw_ws mn_M_phase cb_M_phase 2 (some .int)) ({ frames := 1, cells := 0, slots := 0, locals := 21 } : Room) (fPc x S1 [.ref (xa x 16 0), .int z]) (fQi x S2 r) 0 0 (fun q => xs x ≤ q) ∧ SIM x (k + 2) S2 := by
  have hN : xN x ≤ 7 := hO.2.2.2.1
  have hLL := op_L hO h
  cases e : q_cl z with
  | false => exact ⟨_, _, _, ct_X_phase_no l x S hL z e, ct_M_phase_no l x S hM z e, h.mono (by omega)⟩
  | true =>
    obtain ⟨c, hc, rfl⟩ := q_cl_of e
    refine ⟨_, _, _, ct_X_phase l x S hL c hc, ?_, h.mono (by omega)⟩
    rw [op_phase hc h]
    exact ct_M_phase l x S hM c hc
theorem pr_heard (l : Launch) {x : fy} {S : fm} {k : Nat} (hO : fO x) (hL : fL x) (hM : fM x) (hk : k + 2 ≤ 100000) (h : SIM x k S) (z : Int32) : ∃ (r : Int32) (S1 S2 : fm), Met l mn_X_heard (gw_ws mn_X_heard cb_X_heard 2 (some .int)) ({ frames := 1, cells := 0, slots := 0, locals := 21 } : Room) (fPc x S [.ref (xa x 0 0), .int z]) (fQi x S1 r) 0 0 (fun q => xs x ≤ q) ∧ Met l mn_M_heard (gw_ws mn_M_heard cb_M_heard 2 (some .int)) ({ frames := 1, cells := 0, slots := 0, locals := 21 } : Room) (fPc x S1 [.ref (xa x 16 0), .int z]) (fQi x S2 r) 0 0 (fun q => xs x ≤ q) ∧ SIM x (k + 2) S2 := by
  have hN : xN x ≤ 7 := hO.2.2.2.1
  have hLL := op_L hO h
  cases e : q_cl z with
  | false => exact ⟨_, _, _, ct_X_heard_no l x S hL z e, ct_M_heard_no l x S hM z e, h.mono (by omega)⟩
  | true =>
    obtain ⟨c, hc, rfl⟩ := q_cl_of e
    refine ⟨_, _, _, ct_X_heard l x S hL c hc, ?_, h.mono (by omega)⟩
    rw [op_heard hc h]
    exact ct_M_heard l x S hM c hc
theorem pr_tag (l : Launch) {x : fy} {S : fm} {k : Nat} (hO : fO x) (hL : fL x) (hM : fM x) (hk : k + 2 ≤ 100000) (h : SIM x k S) (z : Int32) : ∃ (r : Int32) (S1 S2 : fm), Met l mn_X_tag (gw_ws mn_X_tag cb_X_tag 2 (some .int)) ({ frames := 1, cells := 0, slots := 0, locals := 21 } : Room) (fPc x S [.ref (xa x 0 0), .int z]) (fQi x S1 r) 0 0 (fun q => xs x ≤ q) ∧ Met l mn_M_tag (gw_ws mn_M_tag cb_M_tag 2 (some .int)) ({ frames := 1, cells := 0, slots := 0, locals := 21 } : Room) (fPc x S1 [.ref (xa x 16 0), .int z]) (fQi x S2 r) 0 0 (fun q => xs x ≤ q) ∧ SIM x (k + 2) S2 := by
  have hN : xN x ≤ 7 := hO.2.2.2.1
  have hLL := op_L hO h
  cases e : q_cl z with
  | false => exact ⟨_, _, _, ct_X_tag_no l x S hL z e, ct_M_tag_no l x S hM z e, h.mono (by omega)⟩
  | true =>
    obtain ⟨c, hc, rfl⟩ := q_cl_of e
    refine ⟨_, _, _, ct_X_tag l x S hL c hc, ?_, h.mono (by omega)⟩
    rw [op_tag hc h]
    exact ct_M_tag l x S hM c hc
theorem pr_result (l : Launch) {x : fy} {S : fm} {k : Nat} (hO : fO x) (hL : fL x) (hM : fM x) (hk : k + 2 ≤ 100000) (h : SIM x k S) (z : Int32) : ∃ (r : Int64) (S1 S2 : fm), Met l mn_X_result (gw_ws mn_X_result cb_X_result 2 (some .long)) ({ frames := 1, cells := 0, slots := 0, locals := 21 } : Room) (fPc x S [.ref (xa x 0 0), .int z]) (fQl x S1 r) 0 0 (fun q => xs x ≤ q) ∧ Met l mn_M_result (gw_ws mn_M_result cb_M_result 2 (some .long)) ({ frames := 1, cells := 0, slots := 0, locals := 21 } : Room) (fPc x S1 [.ref (xa x 16 0), .int z]) (fQl x S2 r) 0 0 (fun q => xs x ≤ q) ∧ SIM x (k + 2) S2 := by
  have hN : xN x ≤ 7 := hO.2.2.2.1
  have hLL := op_L hO h
  cases e : q_cl z with
  | false => exact ⟨_, _, _, ct_X_result_no l x S hL z e, ct_M_result_no l x S hM z e, h.mono (by omega)⟩
  | true =>
    obtain ⟨c, hc, rfl⟩ := q_cl_of e
    refine ⟨_, _, _, ct_X_result l x S hL c hc, ?_, h.mono (by omega)⟩
    rw [op_result hc h]
    exact ct_M_result l x S hM c hc
theorem pr_finished (l : Launch) {x : fy} {S : fm} {k : Nat} (hO : fO x) (hL : fL x) (hM : fM x) (hk : k + 2 ≤ 100000) (h : SIM x k S) (z : Int32) : ∃ (r : Int32) (S1 S2 : fm), Met l mn_X_finished (gw_ws mn_X_finished cb_X_finished 2 (some .int)) ({ frames := 1, cells := 0, slots := 0, locals := 21 } : Room) (fPc x S [.ref (xa x 0 0), .int z]) (fQi x S1 r) 0 0 (fun q => xs x ≤ q) ∧ Met l mn_M_finished (gw_ws mn_M_finished cb_M_finished 2 (some .int)) ({ frames := 1, cells := 0, slots := 0, locals := 21 } : Room) (fPc x S1 [.ref (xa x 16 0), .int z]) (fQi x S2 r) 0 0 (fun q => xs x ≤ q) ∧ SIM x (k + 2) S2 := by
  have hN : xN x ≤ 7 := hO.2.2.2.1
  have hLL := op_L hO h
  cases e : q_cl z with
  | false => exact ⟨_, _, _, ct_X_finished_no l x S hL z e, ct_M_finished_no l x S hM z e, h.mono (by omega)⟩
  | true =>
    obtain ⟨c, hc, rfl⟩ := q_cl_of e
    refine ⟨_, _, _, ct_X_finished l x S hL c hc, ?_, h.mono (by omega)⟩
    rw [op_finished hc h]
    exact ct_M_finished l x S hM c hc
theorem pr_crash (l : Launch) {x : fy} {S : fm} {k : Nat} (hO : fO x) (hL : fL x) (hM : fM x) (hk : k + 2 ≤ 100000) (h : SIM x k S) (z : Int32) : ∃ (r : Int32) (S1 S2 : fm), Met l mn_X_crash (gw_ws mn_X_crash cb_X_crash 3 (some .boolean)) ({ frames := 1, cells := 0, slots := 0, locals := 22 } : Room) (fPc x S [.ref (xa x 0 0), .int z]) (fQi x S1 r) 0 0 (fun q => xs x ≤ q) ∧ Met l mn_M_crash (gw_ws mn_M_crash cb_M_crash 4 (some .boolean)) ({ frames := 1, cells := 0, slots := 0, locals := 22 } : Room) (fPc x S1 [.ref (xa x 16 0), .int z]) (fQi x S2 r) 0 0 (fun q => xs x ≤ q) ∧ SIM x (k + 2) S2 := by
  have hN : xN x ≤ 7 := hO.2.2.2.1
  have hLL := op_L hO h
  cases e : q_sv x z with
  | false => exact ⟨_, _, _, ct_X_crash_no l x S hL z e, ct_M_crash_no l x S hM z e hO, h.mono (by omega)⟩
  | true =>
    obtain ⟨s, hs, rfl⟩ := q_sv_of hO e
    have o := op_crash hO hs h
    have h16 : sk S (if q_crash x S s = true then e_crash x S s else S) 16 := sk.if (sk_crash x S s ⟨by omega, by omega, by omega, by omega⟩) (sk.rf S 16)
    refine ⟨_, _, _, ct_X_crash l x S hL s hs hO, ?_, o.2.mono (by omega)⟩
    have hm := ct_M_crash l x (if q_crash x S s = true then e_crash x S s else S) hM s hs hO (by rw [mL_fr h16]; omega)
    rw [← o.1] at hm
    rw [← o.1]
    exact hm
theorem pr_held (l : Launch) {x : fy} {S : fm} {k : Nat} (hO : fO x) (hL : fL x) (hM : fM x) (hk : k + 2 ≤ 100000) (h : SIM x k S) (z : Int32) : ∃ (r : Int32) (S1 S2 : fm), Met l mn_X_held (gw_ws mn_X_held cb_X_held 2 (some .int)) ({ frames := 1, cells := 0, slots := 0, locals := 21 } : Room) (fPc x S [.ref (xa x 0 0), .int z]) (fQi x S1 r) 0 0 (fun q => xs x ≤ q) ∧ Met l mn_M_held (gw_ws mn_M_held cb_M_held 2 (some .int)) ({ frames := 1, cells := 0, slots := 0, locals := 21 } : Room) (fPc x S1 [.ref (xa x 16 0), .int z]) (fQi x S2 r) 0 0 (fun q => xs x ≤ q) ∧ SIM x (k + 2) S2 := by
  have hN : xN x ≤ 7 := hO.2.2.2.1
  have hLL := op_L hO h
  cases e : q_sv x z with
  | false => exact ⟨_, _, _, ct_X_held_no l x S hL z e, ct_M_held_no l x S hM z e, h.mono (by omega)⟩
  | true =>
    obtain ⟨s, hs, rfl⟩ := q_sv_of hO e
    refine ⟨_, _, _, ct_X_held l x S hL s hs hO, ?_, h.mono (by omega)⟩
    rw [(op_held hs h).1]
    exact ct_M_held l x S hM s hs hO
theorem pr_seal (l : Launch) {x : fy} {S : fm} {k : Nat} (hO : fO x) (hL : fL x) (hM : fM x) (hk : k + 2 ≤ 100000) (h : SIM x k S) (z : Int32) : ∃ (r : Int32) (S1 S2 : fm), Met l mn_X_seal (gw_ws mn_X_seal cb_X_seal 2 (some .int)) ({ frames := 1, cells := 0, slots := 0, locals := 21 } : Room) (fPc x S [.ref (xa x 0 0), .int z]) (fQi x S1 r) 0 0 (fun q => xs x ≤ q) ∧ Met l mn_M_seal (gw_ws mn_M_seal cb_M_seal 2 (some .int)) ({ frames := 1, cells := 0, slots := 0, locals := 21 } : Room) (fPc x S1 [.ref (xa x 16 0), .int z]) (fQi x S2 r) 0 0 (fun q => xs x ≤ q) ∧ SIM x (k + 2) S2 := by
  have hN : xN x ≤ 7 := hO.2.2.2.1
  have hLL := op_L hO h
  cases e : q_sv x z with
  | false => exact ⟨_, _, _, ct_X_seal_no l x S hL z e, ct_M_seal_no l x S hM z e, h.mono (by omega)⟩
  | true =>
    obtain ⟨s, hs, rfl⟩ := q_sv_of hO e
    refine ⟨_, _, _, ct_X_seal l x S hL s hs hO, ?_, h.mono (by omega)⟩
    rw [op_seal hs h]
    exact ct_M_seal l x S hM s hs hO
theorem pr_heldTag (l : Launch) {x : fy} {S : fm} {k : Nat} (hO : fO x) (hL : fL x) (hM : fM x) (hk : k + 2 ≤ 100000) (h : SIM x k S) (z : Int32) (i : Int32) : ∃ (r : Int32) (S1 S2 : fm), Met l mn_X_heldTag (gw_ws mn_X_heldTag cb_X_heldTag 3 (some .int)) ({ frames := 1, cells := 0, slots := 0, locals := 21 } : Room) (fPc x S [.ref (xa x 0 0), .int z, .int i]) (fQi x S1 r) 0 0 (fun q => xs x ≤ q) ∧ Met l mn_M_heldTag (gw_ws mn_M_heldTag cb_M_heldTag 6 (some .int)) ({ frames := 1, cells := 0, slots := 0, locals := 21 } : Room) (fPc x S1 [.ref (xa x 16 0), .int z, .int i]) (fQi x S2 r) 0 0 (fun q => xs x ≤ q) ∧ SIM x (k + 2) S2 := by
  have hN : xN x ≤ 7 := hO.2.2.2.1
  have hLL := op_L hO h
  cases e : q_sv x z with
  | false => exact ⟨_, _, _, ct_X_heldTag_no l x S hL z i e, ct_M_heldTag_no l x S hM z i e, h.mono (by omega)⟩
  | true =>
    obtain ⟨s, hs, rfl⟩ := q_sv_of hO e
    have hh := op_held hs h
    have hD : xD x ≤ 3 := hO.2.2.2.2.2.2
    rcases ix_cases (j := i) (n := mU S 10 s 3) (by omega) with hi | ⟨j, hj, rfl⟩
    · refine ⟨_, _, _, ct_X_heldTag_bad l x S hL s i hs hO hi, ?_, h.mono (by omega)⟩
      have hm := ct_M_heldTag l x S hM s i hs hO (by omega)
      rw [op_heldTag_bad hO hs h hi] at hm
      exact hm
    · refine ⟨_, _, _, ct_X_heldTag l x S hL s j hs hO hj (op_fI h), ?_, h.mono (by omega)⟩
      rw [op_heldTag hO hs h hj]
      exact ct_M_heldTag l x S hM s (nI j) hs hO (by omega)
theorem pr_fragment (l : Launch) {x : fy} {S : fm} {k : Nat} (hO : fO x) (hL : fL x) (hM : fM x) (hk : k + 2 ≤ 100000) (h : SIM x k S) (z : Int32) (t : Int32) (i : Int32) : ∃ (r : Int32) (S1 S2 : fm), Met l mn_X_fragment (gw_ws mn_X_fragment cb_X_fragment 5 (some .int)) ({ frames := 1, cells := 0, slots := 0, locals := 22 } : Room) (fPc x S [.ref (xa x 0 0), .int z, .int t, .int i]) (fQi x S1 r) 0 0 (fun q => xs x ≤ q) ∧ Met l mn_M_fragment (gw_ws mn_M_fragment cb_M_fragment 10 (some .int)) ({ frames := 1, cells := 0, slots := 0, locals := 24 } : Room) (fPc x S1 [.ref (xa x 16 0), .int z, .int t, .int i]) (fQi x S2 r) 0 0 (fun q => xs x ≤ q) ∧ SIM x (k + 2) S2 := by
  have hN : xN x ≤ 7 := hO.2.2.2.1
  have hLL := op_L hO h
  cases e : q_sv x z with
  | false => exact ⟨_, _, _, ct_X_fragment_no l x S hL z t i e, ct_M_fragment_no l x S hM z t i e, h.mono (by omega)⟩
  | true =>
    obtain ⟨s, hs, rfl⟩ := q_sv_of hO e
    have hh := op_held hs h
    have hD : xD x ≤ 3 := hO.2.2.2.2.2.2
    have hR8 := (xR_facts x hO).1
    rcases ix_cases (j := i) (n := xR x) (by omega) with hi | ⟨j, hj, rfl⟩
    · exact ⟨_, _, _, ct_X_fragment_bad l x S hL s t i hs hO hi, ct_M_fragment_bad l x S hM s t i hs hO hi, h.mono (by omega)⟩
    · refine ⟨_, _, _, ct_X_fragment l x S hL s j t hs hO hj (op_fI h), ?_, h.mono (by omega)⟩
      rw [op_fragment hO hs h hj]
      exact ct_M_fragment l x S hM s j t hs hO hj (by omega)
theorem pr_requests (l : Launch) {x : fy} {S : fm} {k : Nat} (hO : fO x) (hL : fL x) (hM : fM x) (hk : k + 2 ≤ 100000) (h : SIM x k S) (z : Int32) (y : Int32) : ∃ (r : Int32) (S1 S2 : fm), Met l mn_X_requests (gw_ws mn_X_requests cb_X_requests 3 (some .int)) ({ frames := 1, cells := 0, slots := 0, locals := 22 } : Room) (fPc x S [.ref (xa x 0 0), .int z, .int y]) (fQi x S1 r) 0 0 (fun q => xs x ≤ q) ∧ Met l mn_M_requests (gw_ws mn_M_requests cb_M_requests 3 (some .int)) ({ frames := 1, cells := 0, slots := 0, locals := 25 } : Room) (fPc x S1 [.ref (xa x 16 0), .int z, .int y]) (fQi x S2 r) 0 0 (fun q => xs x ≤ q) ∧ SIM x (k + 2) S2 := by
  have hN : xN x ≤ 7 := hO.2.2.2.1
  have hLL := op_L hO h
  have hL2 : mU S 16 0 18 ≤ 256 := Nat.le_trans hLL (by omega)
  cases e : q_cl z with
  | false => exact ⟨_, _, _, ct_X_requests_no l x S hL z y (Or.inl e), ct_M_requests_no l x S hM z y (Or.inl e), h.mono (by omega)⟩
  | true =>
    cases e2 : q_sv x y with
    | false => exact ⟨_, _, _, ct_X_requests_no l x S hL z y (Or.inr e2), ct_M_requests_no l x S hM z y (Or.inr e2), h.mono (by omega)⟩
    | true =>
      obtain ⟨c, hc, rfl⟩ := q_cl_of e
      obtain ⟨s, hs, rfl⟩ := q_sv_of hO e2
      refine ⟨_, _, _, ct_X_requests l x S hL c s hc hs hO, ?_, h.mono (by omega)⟩
      rw [(op_letters hc hs h).1]
      exact ct_M_requests l x S hM c s hc hs hO hL2
theorem pr_replies (l : Launch) {x : fy} {S : fm} {k : Nat} (hO : fO x) (hL : fL x) (hM : fM x) (hk : k + 2 ≤ 100000) (h : SIM x k S) (z : Int32) (y : Int32) : ∃ (r : Int32) (S1 S2 : fm), Met l mn_X_replies (gw_ws mn_X_replies cb_X_replies 3 (some .int)) ({ frames := 1, cells := 0, slots := 0, locals := 22 } : Room) (fPc x S [.ref (xa x 0 0), .int z, .int y]) (fQi x S1 r) 0 0 (fun q => xs x ≤ q) ∧ Met l mn_M_replies (gw_ws mn_M_replies cb_M_replies 3 (some .int)) ({ frames := 1, cells := 0, slots := 0, locals := 25 } : Room) (fPc x S1 [.ref (xa x 16 0), .int z, .int y]) (fQi x S2 r) 0 0 (fun q => xs x ≤ q) ∧ SIM x (k + 2) S2 := by
  have hN : xN x ≤ 7 := hO.2.2.2.1
  have hLL := op_L hO h
  have hL2 : mU S 16 0 18 ≤ 256 := Nat.le_trans hLL (by omega)
  cases e : q_cl z with
  | false => exact ⟨_, _, _, ct_X_replies_no l x S hL z y (Or.inl e), ct_M_replies_no l x S hM z y (Or.inl e), h.mono (by omega)⟩
  | true =>
    cases e2 : q_sv x y with
    | false => exact ⟨_, _, _, ct_X_replies_no l x S hL z y (Or.inr e2), ct_M_replies_no l x S hM z y (Or.inr e2), h.mono (by omega)⟩
    | true =>
      obtain ⟨c, hc, rfl⟩ := q_cl_of e
      obtain ⟨s, hs, rfl⟩ := q_sv_of hO e2
      refine ⟨_, _, _, ct_X_replies l x S hL c s hc hs hO, ?_, h.mono (by omega)⟩
      rw [(op_letters hc hs h).2]
      exact ct_M_replies l x S hM c s hc hs hO hL2
theorem pr_deliver (l : Launch) {x : fy} {S : fm} {k : Nat} (hO : fO x) (hL : fL x) (hM : fM x) (hk : k + 2 ≤ 100000) (h : SIM x k S) (z : Int32) (y : Int32) (j : Int32) : ∃ (r : Int32) (S1 S2 : fm), Met l mn_X_deliver (gw_ws mn_X_deliver cb_X_deliver 5 (some .int)) ({ frames := 3, cells := 0, slots := 0, locals := 66 } : Room) (fPc x S [.ref (xa x 0 0), .int z, .int y, .int j]) (fQi x S1 r) 0 0 (fun q => xs x ≤ q) ∧ Met l mn_M_deliver (gw_ws mn_M_deliver cb_M_deliver 11 (some .int)) ({ frames := 2, cells := 0, slots := 0, locals := 50 } : Room) (fPc x S1 [.ref (xa x 16 0), .int z, .int y, .int j]) (fQi x S2 r) 0 0 (fun q => xs x ≤ q) ∧ SIM x (k + 2) S2 := by
  have hN : xN x ≤ 7 := hO.2.2.2.1
  have hLL := op_L hO h
  have hL2 : mU S 16 0 18 ≤ 256 := Nat.le_trans hLL (by omega)
  cases e : q_cl z with
  | false => exact ⟨_, _, _, ct_X_deliver_no l x S hL z y j (Or.inl e), ct_M_deliver_no l x S hM z y j (Or.inl e), h.mono (by omega)⟩
  | true =>
    cases e2 : q_sv x y with
    | false => exact ⟨_, _, _, ct_X_deliver_no l x S hL z y j (Or.inr e2), ct_M_deliver_no l x S hM z y j (Or.inr e2), h.mono (by omega)⟩
    | true =>
      obtain ⟨c, hc, rfl⟩ := q_cl_of e
      obtain ⟨s, hs, rfl⟩ := q_sv_of hO e2
      have h7 := (op_fI h).1 (c * xN x + s)
      rcases ix_cases (j := j) (n := mU S 13 (c * xN x + s) 1) (by omega) with hi | ⟨i, hi, rfl⟩
      · exact ⟨_, _, _, ct_X_deliver_none l x S hL c s j hc hs hO hi, ct_M_deliver_none l x S hM c s j hc hs hO hL2 ((op_seek hO hc hs h).1 hi), h.mono (by omega)⟩
      · obtain ⟨a, at_, o1, o2, o3, o4, o5, o6⟩ := op_deliver hO hc hs h hi
        refine ⟨_, _, _, ct_X_deliver l x S hL c s i a hc hs hO (op_fI h) hi o1, ?_, o6.mono (by omega)⟩
        rw [o5]
        exact ct_M_deliver l x _ hM c s at_ (nI i) hc hs hO (Nat.le_trans o3 (by omega)) o2 o4
theorem pr_hear (l : Launch) {x : fy} {S : fm} {k : Nat} (hO : fO x) (hL : fL x) (hM : fM x) (hk : k + 2 ≤ 100000) (h : SIM x k S) (z : Int32) (y : Int32) (j : Int32) : ∃ (r : Int32) (S1 S2 : fm), Met l mn_X_hear (gw_ws mn_X_hear cb_X_hear 6 (some .int)) ({ frames := 5, cells := 7, slots := 42, locals := 120 } : Room) (fPc x S [.ref (xa x 0 0), .int z, .int y, .int j]) (fQi x S1 r) 7 42 (fun q => xs x ≤ q) ∧ Met l mn_M_hear (gw_ws mn_M_hear cb_M_hear 10 (some .int)) ({ frames := 3, cells := 0, slots := 0, locals := 70 } : Room) (fPc x S1 [.ref (xa x 16 0), .int z, .int y, .int j]) (fQi x S2 r) 0 0 (fun q => xs x ≤ q) ∧ SIM x (k + 2) S2 := by
  have hN : xN x ≤ 7 := hO.2.2.2.1
  have hLL := op_L hO h
  have hL2 : mU S 16 0 18 ≤ 256 := Nat.le_trans hLL (by omega)
  cases e : q_cl z with
  | false => exact ⟨_, _, _, ct_X_hear_no l x S hL z y j (Or.inl e), ct_M_hear_no l x S hM z y j (Or.inl e), h.mono (by omega)⟩
  | true =>
    cases e2 : q_sv x y with
    | false => exact ⟨_, _, _, ct_X_hear_no l x S hL z y j (Or.inr e2), ct_M_hear_no l x S hM z y j (Or.inr e2), h.mono (by omega)⟩
    | true =>
      obtain ⟨c, hc, rfl⟩ := q_cl_of e
      obtain ⟨s, hs, rfl⟩ := q_sv_of hO e2
      have h7 := (op_fI h).1 (100 + (c * xN x + s))
      rcases ix_cases (j := j) (n := mU S 13 (100 + (c * xN x + s)) 1) (by omega) with hi | ⟨i, hi, rfl⟩
      · exact ⟨_, _, _, ct_X_hear_none l x S hL c s j hc hs hO hi, ct_M_hear_none l x S hM c s j hc hs hO hL2 ((op_seek hO hc hs h).2 hi), h.mono (by omega)⟩
      · obtain ⟨a, at_, o1, o2, o3, o5, o6⟩ := op_hear hO hk hc hs h hi
        refine ⟨_, _, _, ct_X_hear l x S hL c s i a hc hs hO (op_fI h) hi o1, ?_, o6⟩
        rw [o5]
        exact ct_M_hear l x _ hM c s at_ (nI i) hc hs hO (Nat.le_trans o3 (by omega)) o2 (by omega)
theorem pr_quorum (l : Launch) {x : fy} {S : fm} {k : Nat} (hO : fO x) (hL : fL x) (hM : fM x) (hk : k + 2 ≤ 100000) (h : SIM x k S)  : ∃ (r : Int32) (S1 S2 : fm), Met l mn_X_quorum (gw_ws mn_X_quorum cb_X_quorum 1 (some .int)) ({ frames := 0, cells := 0, slots := 0, locals := 0 } : Room) (fPc x S [.ref (xa x 0 0)]) (fQi x S1 r) 0 0 (fun q => xs x ≤ q) ∧ Met l mn_M_quorum (gw_ws mn_M_quorum cb_M_quorum 1 (some .int)) ({ frames := 0, cells := 0, slots := 0, locals := 0 } : Room) (fPc x S1 [.ref (xa x 16 0)]) (fQi x S2 r) 0 0 (fun q => xs x ≤ q) ∧ SIM x (k + 2) S2 := by
  exact ⟨_, _, _, ct_X_quorum l x S hL, ct_M_quorum l x S hM hO, h.mono (by omega)⟩
