-- contracts of Client, Server and Letter, by wip/whole/gen/c_cs.py
theorem f_min {a b : Nat} (ha : a < 2 ^ 31) (hb : b < 2 ^ 31) : (if nI b < nI a then nI b else nI a) = nI (min a b) := by
  by_cases h : b < a
  · rw [if_pos ((nI_ltI hb ha).mpr h), Nat.min_eq_right (by omega)]
  · rw [if_neg (fun q => h ((nI_ltI hb ha).mp q)), Nat.min_eq_left (by omega)]
theorem fr_some {p : Nat → Bool} {n i : Nat} (hi : i < n) (hp : p i = true) (h : ∀ k, k < i → p k = false) : (List.range n).find? p = some i := by
  rw [List.find?_range_eq_some]
  exact ⟨hp, List.mem_range.mpr hi, fun k hk => by rw [h k hk]; rfl⟩
theorem fr_none {p : Nat → Bool} {n : Nat} (h : ∀ k, k < n → p k = false) : (List.range n).find? p = none := by
  rw [List.find?_eq_none]
  intro k hk
  rw [h k (List.mem_range.mp hk)]
  decide
def shA {α : Type} (f : Nat → α) (q n : Nat) : Nat → α := fun i => if q < i ∧ i ≤ n then f (i - 1) else f i
theorem shA_0 {α : Type} (f : Nat → α) (n : Nat) : shA f n n = f := by
  funext i; unfold shA; rw [if_neg (by omega)]
theorem shA_at {α : Type} (f : Nat → α) (q n : Nat) : shA f (q + 1) n q = f q := by
  unfold shA; rw [if_neg (by omega)]
theorem shA_step {α : Type} (f : Nat → α) (q n : Nat) (h : q + 1 ≤ n) : va_up (shA f (q + 1) n) (q + 1) (f q) = shA f q n := by
  funext i
  unfold va_up shA
  by_cases hi : i = q + 1
  · rw [if_pos hi, if_pos (by omega), hi]; rfl
  · rw [if_neg hi]
    by_cases h2 : q + 1 < i ∧ i ≤ n
    · rw [if_pos h2, if_pos (by omega)]
    · rw [if_neg h2, if_neg (by omega)]
theorem shA_end {α : Type} (f : Nat → α) (q n : Nat) (v : α) : va_up (shA f q n) q v = insA f q n v := rfl
set_option maxHeartbeats 4000000 in
set_option maxRecDepth 100000 in
theorem ct_C_isAtWork (l : Launch) (x : fy) (S : fm) (c : Nat) (hv : fv x 7 c) : Met l mn_C_isAtWork (gw_ws mn_C_isAtWork cb_C_isAtWork 1 (some .boolean)) ({ frames := 0, cells := 0, slots := 0, locals := 0 } : Room) (fPc x (S) [.ref (xa x 7 c)]) (fQi x (S) (b2 (q_work S c))) 0 0 (fun q => xs x ≤ q) := by
  refine f_met (by decide) (Nat.le_of_ble_eq_true rfl) ?_
  intro p e s m below meth c0 cx hr hlocks hnm hP hS ls hl
  have cx : fX rn_C cb_C_isAtWork 1 p c0 s m [.ref (xa x 7 c)].toArray x := cx
  have hx := cx.1.1
  have hb := cx.1.2.1
  have hl : lv_has ls 1 [(0, .ref (xa x 7 c))] := hl
  refine lv_aload_n (pc := 0) hx hb dd_C_isAtWork_0 rfl (lv_at hl 0 rfl) ?_
  refine g_C_C_crashed (pc := 1) cx hP (by assumption) dd_C_isAtWork_1 ?_
  refine f_neB (pc := 4) (tgt := 18) cx dd_C_isAtWork_4 (by decide) (fun h4 => ?_) (fun h4 => ?_)
  · -- 4: t to 18
    refine lv_iconst (pc := 18) (v := 0) hx hb dd_C_isAtWork_18 (by decide) ?_
    exact f_zret (pc := 19) cx hr hlocks hP hS (by simp [q_work, b2, *]) rfl dd_C_isAtWork_19
  · -- 4: f to 7
    refine lv_aload_n (pc := 7) hx hb dd_C_isAtWork_7 rfl (lv_at hl 0 rfl) ?_
    refine g_C_C_phase (pc := 8) cx hP (by assumption) dd_C_isAtWork_8 ?_
    refine lv_if_eq (pc := 11) (tgt := 18) hx hb dd_C_isAtWork_11 (by decide) (fun h11 => ?_) (fun h11 => ?_)
    · -- 11: t to 18
      refine lv_iconst (pc := 18) (v := 0) hx hb dd_C_isAtWork_18 (by decide) ?_
      exact f_zret (pc := 19) cx hr hlocks hP hS (by simp [q_work, b2, *]) rfl dd_C_isAtWork_19
    · -- 11: f to 14
      refine lv_iconst (pc := 14) (v := 1) hx hb dd_C_isAtWork_14 (by decide) ?_
      refine lv_goto (pc := 15) (tgt := 19) hx hb dd_C_isAtWork_15 (by decide) ?_
      exact f_zret (pc := 19) cx hr hlocks hP hS (by simp [q_work, b2, *]) rfl dd_C_isAtWork_19
set_option maxHeartbeats 4000000 in
set_option maxRecDepth 100000 in
theorem ct_C_enter (l : Launch) (x : fy) (S : fm) (c : Nat) (ph : Int32) (hv : fv x 7 c) : Met l mn_C_enter (gw_ws mn_C_enter cb_C_enter 2 none) ({ frames := 0, cells := 0, slots := 0, locals := 0 } : Room) (fPc x (S) [.ref (xa x 7 c), .int ph]) (fQv x (e_enter S c ph)) 0 0 (fun q => xs x ≤ q) := by
  refine f_met (by decide) (Nat.le_of_ble_eq_true rfl) ?_
  intro p e s m below meth c0 cx hr hlocks hnm hP hS ls hl
  have cx : fX rn_C cb_C_enter 2 p c0 s m [.ref (xa x 7 c), .int ph].toArray x := cx
  have hx := cx.1.1
  have hb := cx.1.2.1
  have hl : lv_has ls 2 [(0, .ref (xa x 7 c)), (1, .int ph)] := hl
  refine lv_aload_n (pc := 0) hx hb dd_C_enter_0 rfl (lv_at hl 0 rfl) ?_
  refine lv_iload_n (pc := 1) hx hb dd_C_enter_1 rfl (lv_at hl 1 rfl) ?_
  refine p_C_C_phase (pc := 2) cx hP hS (by assumption) dd_C_enter_2 (fun H locs hP hS => ?_)
  refine lv_aload_n (pc := 5) hx hb dd_C_enter_5 rfl (lv_at hl 0 rfl) ?_
  refine lv_dup (pc := 6) hx hb dd_C_enter_6 rfl ?_
  refine g_C_C_beginning (pc := 7) cx hP (by assumption) dd_C_enter_7 ?_
  refine lv_iconst (pc := 10) (v := 1) hx hb dd_C_enter_10 (by decide) ?_
  refine lv_iadd (pc := 11) hx hb dd_C_enter_11 ?_
  refine p_C_C_beginning (pc := 12) cx hP hS (by assumption) dd_C_enter_12 (fun H locs hP hS => ?_)
  refine lv_aload_n (pc := 15) hx hb dd_C_enter_15 rfl (lv_at hl 0 rfl) ?_
  refine lv_iconst (pc := 16) (v := 0) hx hb dd_C_enter_16 (by decide) ?_
  refine p_C_C_heard (pc := 17) cx hP hS (by assumption) dd_C_enter_17 (fun H locs hP hS => ?_)
  refine lv_aload_n (pc := 20) hx hb dd_C_enter_20 rfl (lv_at hl 0 rfl) ?_
  refine lv_iconst (pc := 21) (v := 0) hx hb dd_C_enter_21 (by decide) ?_
  refine p_C_C_highestSeal (pc := 22) cx hP hS (by assumption) dd_C_enter_22 (fun H locs hP hS => ?_)
  refine lv_aload_n (pc := 25) hx hb dd_C_enter_25 rfl (lv_at hl 0 rfl) ?_
  refine lv_iconst (pc := 26) (v := 0) hx hb dd_C_enter_26 (by decide) ?_
  refine p_C_C_fragmentCount (pc := 27) cx hP hS (by assumption) rfl dd_C_enter_27 (fun H locs hP hS => ?_)
  exact f_vret (pc := 30) cx hr hlocks hP hS (by simp [e_enter, mI_sI]) dd_C_enter_30
set_option maxHeartbeats 4000000 in
set_option maxRecDepth 100000 in
theorem ct_C_counts (l : Launch) (x : fy) (S : fm) (c a : Nat) (hv : fv x 7 c) (ha : fvL x S a) : Met l mn_C_counts (gw_ws mn_C_counts cb_C_counts 2 (some .boolean)) ({ frames := 1, cells := 0, slots := 0, locals := 20 } : Room) (fPc x (S) [.ref (xa x 7 c), .ref a]) (fQi x (S) (b2 (q_counts S c a))) 0 0 (fun q => xs x ≤ q) := by
  refine f_met (by decide) (Nat.le_of_ble_eq_true rfl) ?_
  intro p e s m below meth c0 cx hr hlocks hnm hP hS ls hl
  have cx : fX rn_C cb_C_counts 2 p c0 s m [.ref (xa x 7 c), .ref a].toArray x := cx
  have hx := cx.1.1
  have hb := cx.1.2.1
  have hl : lv_has ls 2 [(0, .ref (xa x 7 c)), (1, .ref a)] := hl
  refine lv_aload_n (pc := 0) hx hb dd_C_counts_0 rfl (lv_at hl 0 rfl) ?_
  refine k_C_C_isAtWork (pc := 1) cx hl hP hS (by assumption) (ct_C_isAtWork l x _ c hv) ⟨⟨rfl, rfl⟩, ⟨(Nat.le_of_ble_eq_true rfl), (Nat.le_of_ble_eq_true rfl)⟩, (Nat.le_of_ble_eq_true rfl), (Nat.le_of_ble_eq_true rfl)⟩ (Nat.le_of_ble_eq_true rfl) dd_C_counts_1 (fun H locs hP hS => ?_)
  refine f_eqB (pc := 4) (tgt := 22) cx dd_C_counts_4 (by decide) (fun h4 => ?_) (fun h4 => ?_)
  · -- 4: t to 22
    refine lv_iconst (pc := 22) (v := 0) hx hb dd_C_counts_22 (by decide) ?_
    exact f_zret (pc := 23) cx hr hlocks hP hS (by simp [q_counts, b2, *]) rfl dd_C_counts_23
  · -- 4: f to 7
    refine lv_aload_n (pc := 7) hx hb dd_C_counts_7 rfl (lv_at hl 1 rfl) ?_
    refine g_C_L_beginning (pc := 8) cx hP (by assumption) dd_C_counts_8 ?_
    refine lv_aload_n (pc := 11) hx hb dd_C_counts_11 rfl (lv_at hl 0 rfl) ?_
    refine g_C_C_beginning (pc := 12) cx hP (by assumption) dd_C_counts_12 ?_
    refine lv_icmp_ne (pc := 15) (tgt := 22) hx hb dd_C_counts_15 (by decide) (fun h15 => ?_) (fun h15 => ?_)
    · -- 15: t to 22
      refine lv_iconst (pc := 22) (v := 0) hx hb dd_C_counts_22 (by decide) ?_
      exact f_zret (pc := 23) cx hr hlocks hP hS (by simp [q_counts, b2, *]) rfl dd_C_counts_23
    · -- 15: f to 18
      refine lv_iconst (pc := 18) (v := 1) hx hb dd_C_counts_18 (by decide) ?_
      refine lv_goto (pc := 19) (tgt := 23) hx hb dd_C_counts_19 (by decide) ?_
      exact f_zret (pc := 23) cx hr hlocks hP hS (by simp [q_counts, b2, *]) rfl dd_C_counts_23
set_option maxHeartbeats 4000000 in
set_option maxRecDepth 100000 in
theorem ct_C_take (l : Launch) (x : fy) (S : fm) (c a s0 : Nat) (hv : fv x 7 c) (hv8 : fv x 8 c) (hv9 : fv x 9 c) (ha : fvL x S a) (hK : xK x ≤ 7) (hn : mU S 7 c 3 ≤ 7) : Met l mn_C_take (gw_ws mn_C_take cb_C_take 3 none) ({ frames := 1, cells := 0, slots := 0, locals := 21 } : Room) (fPc x (S) [.ref (xa x 7 c), .ref a, .int (nI s0)]) (fQv x (e_hear x S c a s0)) 0 0 (fun q => xs x ≤ q) := by
  refine f_met (by decide) (Nat.le_of_ble_eq_true rfl) ?_
  intro p e s m below meth c0 cx hr hlocks hnm hP hS ls hl
  have cx : fX rn_C cb_C_take 3 p c0 s m [.ref (xa x 7 c), .ref a, .int (nI s0)].toArray x := cx
  have hx := cx.1.1
  have hb := cx.1.2.1
  have hl : lv_has ls 3 [(0, .ref (xa x 7 c)), (1, .ref a), (2, .int (nI s0))] := hl
  refine lv_aload_n (pc := 0) hx hb dd_C_take_0 rfl (lv_at hl 0 rfl) ?_
  refine lv_dup (pc := 1) hx hb dd_C_take_1 rfl ?_
  refine g_C_C_heard (pc := 2) cx hP (by assumption) dd_C_take_2 ?_
  refine lv_iconst (pc := 5) (v := 1) hx hb dd_C_take_5 (by decide) ?_
  refine lv_iadd (pc := 6) hx hb dd_C_take_6 ?_
  refine p_C_C_heard (pc := 7) cx hP hS (by assumption) dd_C_take_7 (fun H locs hP hS => ?_)
  refine lv_aload_n (pc := 10) hx hb dd_C_take_10 rfl (lv_at hl 0 rfl) ?_
  refine lv_aload_n (pc := 11) hx hb dd_C_take_11 rfl (lv_at hl 0 rfl) ?_
  refine g_C_C_highestSeal (pc := 12) cx hP (by assumption) dd_C_take_12 ?_
  refine lv_aload_n (pc := 15) hx hb dd_C_take_15 rfl (lv_at hl 1 rfl) ?_
  refine g_C_L_seal (pc := 16) cx hP (by assumption) dd_C_take_16 ?_
  refine k_C_J_max (pc := 19) cx hl ⟨(Nat.le_of_ble_eq_true rfl), (Nat.le_of_ble_eq_true rfl), (Nat.le_of_ble_eq_true rfl), (Nat.le_of_ble_eq_true rfl)⟩ dd_C_take_19 ?_
  refine p_C_C_highestSeal (pc := 22) cx hP hS (by assumption) dd_C_take_22 (fun H locs hP hS => ?_)
  have hP := f_eqS (T' := e_hear1 S c a) hP (by simp [e_hear1, jmax, mI_sI])
  refine lv_aload_n (pc := 25) hx hb dd_C_take_25 rfl (lv_at hl 1 rfl) ?_
  refine g_C_L_bearsFragment (pc := 26) cx hP (by assumption) dd_C_take_26 ?_
  refine f_eqB (pc := 29) (tgt := 77) cx dd_C_take_29 (by decide) (fun h29 => ?_) (fun h29 => ?_)
  · -- 29: t to 77
    have e0 : e_hear1 S c a = e_hear x S c a s0 := by unfold e_hear; rw [if_neg (fun q => by rw [show mB S 15 a 5 = false from h29] at q; cases q.1)]
    exact f_vret (pc := 77) cx hr hlocks hP hS e0 dd_C_take_77
  · -- 29: f to 32
    refine lv_aload_n (pc := 32) hx hb dd_C_take_32 rfl (lv_at hl 0 rfl) ?_
    refine g_C_C_fragmentCount (pc := 33) cx hP (by assumption) dd_C_take_33 ?_
    refine lv_aload_n (pc := 36) hx hb dd_C_take_36 rfl (lv_at hl 0 rfl) ?_
    refine g_C_C_fragments (pc := 37) cx hP (by assumption) dd_C_take_37 ?_
    refine f_alen 1 (pc := 40) cx hP (fv.at (by assumption) _) rfl rfl dd_C_take_40 ?_
    refine lv_icmp_ge (pc := 41) (tgt := 77) hx hb dd_C_take_41 (by decide) (fun h41 => ?_) (fun h41 => ?_)
    · -- 41: t to 77
      have h := (nI_leI (by omega) (show mU S 7 c 3 < 2 ^ 31 by omega)).mp h41
      have e0 : e_hear1 S c a = e_hear x S c a s0 := by unfold e_hear; rw [if_neg (fun q => by omega)]
      exact f_vret (pc := 77) cx hr hlocks hP hS e0 dd_C_take_77
    · -- 41: f to 44
      have h : mU S 7 c 3 < xK x := Nat.lt_of_not_le (fun q => h41 ((nI_leI (by omega) (show mU S 7 c 3 < 2 ^ 31 by omega)).mpr q))
      have e0 : e_hear2 (e_hear1 S c a) c a s0 = e_hear x S c a s0 := by unfold e_hear; rw [if_pos ⟨h29, h⟩]
      refine lv_aload_n (pc := 44) hx hb dd_C_take_44 rfl (lv_at hl 0 rfl) ?_
      refine g_C_C_sources (pc := 45) cx hP (by assumption) dd_C_take_45 ?_
      refine lv_aload_n (pc := 48) hx hb dd_C_take_48 rfl (lv_at hl 0 rfl) ?_
      refine g_C_C_fragmentCount (pc := 49) cx hP (by assumption) dd_C_take_49 ?_
      refine lv_iload_n (pc := 52) hx hb dd_C_take_52 rfl (lv_at hl 2 rfl) ?_
      refine f_iastU (pc := 53) cx hP hS (fv.at (by assumption) _) (fun _ => rfl) rfl rfl h dd_C_take_53 (fun H locs hP hS => ?_)
      refine lv_aload_n (pc := 54) hx hb dd_C_take_54 rfl (lv_at hl 0 rfl) ?_
      refine g_C_C_fragments (pc := 55) cx hP (by assumption) dd_C_take_55 ?_
      refine lv_aload_n (pc := 58) hx hb dd_C_take_58 rfl (lv_at hl 0 rfl) ?_
      refine g_C_C_fragmentCount (pc := 59) cx hP (by assumption) dd_C_take_59 ?_
      refine lv_aload_n (pc := 62) hx hb dd_C_take_62 rfl (lv_at hl 1 rfl) ?_
      refine g_C_L_fragment (pc := 63) cx hP (by assumption) dd_C_take_63 ?_
      refine f_last (pc := 66) cx hP hS (fv.at (by assumption) _) (fun _ => rfl) rfl h dd_C_take_66 (fun H locs hP hS => ?_)
      refine lv_aload_n (pc := 67) hx hb dd_C_take_67 rfl (lv_at hl 0 rfl) ?_
      refine lv_dup (pc := 68) hx hb dd_C_take_68 rfl ?_
      refine g_C_C_fragmentCount (pc := 69) cx hP (by assumption) dd_C_take_69 ?_
      refine lv_iconst (pc := 72) (v := 1) hx hb dd_C_take_72 (by decide) ?_
      refine lv_iadd (pc := 73) hx hb dd_C_take_73 ?_
      refine p_C_C_fragmentCount (pc := 74) cx hP hS (by assumption) (nI_1 _) dd_C_take_74 (fun H locs hP hS => ?_)
      have hP := f_eqS (T' := e_hear2 (e_hear1 S c a) c a s0) hP (by simp [e_hear2, mU_sU, mU_sJ, mJ_sU])
      exact f_vret (pc := 77) cx hr hlocks hP hS e0 dd_C_take_77
set_option maxHeartbeats 4000000 in
set_option maxRecDepth 100000 in
theorem ct_C_hasAll (l : Launch) (x : fy) (S : fm) (c : Nat) (hv : fv x 7 c) (hv9 : fv x 9 c) (hK : xK x ≤ 7) (hn : mU S 7 c 3 ≤ 7) : Met l mn_C_hasAllFragments (gw_ws mn_C_hasAllFragments cb_C_hasAllFragments 1 (some .boolean)) ({ frames := 0, cells := 0, slots := 0, locals := 0 } : Room) (fPc x (S) [.ref (xa x 7 c)]) (fQi x (S) (b2 (decide (mU S 7 c 3 = xK x)))) 0 0 (fun q => xs x ≤ q) := by
  refine f_met (by decide) (Nat.le_of_ble_eq_true rfl) ?_
  intro p e s m below meth c0 cx hr hlocks hnm hP hS ls hl
  have cx : fX rn_C cb_C_hasAllFragments 1 p c0 s m [.ref (xa x 7 c)].toArray x := cx
  have hx := cx.1.1
  have hb := cx.1.2.1
  have hl : lv_has ls 1 [(0, .ref (xa x 7 c))] := hl
  refine lv_aload_n (pc := 0) hx hb dd_C_hasAllFragments_0 rfl (lv_at hl 0 rfl) ?_
  refine g_C_C_fragmentCount (pc := 1) cx hP (by assumption) dd_C_hasAllFragments_1 ?_
  refine lv_aload_n (pc := 4) hx hb dd_C_hasAllFragments_4 rfl (lv_at hl 0 rfl) ?_
  refine g_C_C_fragments (pc := 5) cx hP (by assumption) dd_C_hasAllFragments_5 ?_
  refine f_alen 1 (pc := 8) cx hP (fv.at (by assumption) _) rfl rfl dd_C_hasAllFragments_8 ?_
  refine lv_icmp_ne (pc := 9) (tgt := 16) hx hb dd_C_hasAllFragments_9 (by decide) (fun h9 => ?_) (fun h9 => ?_)
  · -- 9: t to 16
    have h : ¬ mU S 7 c 3 = xK x := fun q => h9 (by rw [q])
    refine lv_iconst (pc := 16) (v := 0) hx hb dd_C_hasAllFragments_16 (by decide) ?_
    exact f_zret (pc := 17) cx hr hlocks hP hS (by simp [b2, h]) rfl dd_C_hasAllFragments_17
  · -- 9: f to 12
    have h := (nI_eq (by omega) (by omega)).mp h9
    refine lv_iconst (pc := 12) (v := 1) hx hb dd_C_hasAllFragments_12 (by decide) ?_
    refine lv_goto (pc := 13) (tgt := 17) hx hb dd_C_hasAllFragments_13 (by decide) ?_
    exact f_zret (pc := 17) cx hr hlocks hP hS (by simp [b2, h]) rfl dd_C_hasAllFragments_17
set_option maxHeartbeats 4000000 in
set_option maxRecDepth 100000 in
theorem ct_C_finish (l : Launch) (x : fy) (S : fm) (c : Nat) (hv : fv x 7 c) : Met l mn_C_finish (gw_ws mn_C_finish cb_C_finish 1 none) ({ frames := 0, cells := 0, slots := 0, locals := 0 } : Room) (fPc x (S) [.ref (xa x 7 c)]) (fQv x (e_finish S c)) 0 0 (fun q => xs x ≤ q) := by
  refine f_met (by decide) (Nat.le_of_ble_eq_true rfl) ?_
  intro p e s m below meth c0 cx hr hlocks hnm hP hS ls hl
  have cx : fX rn_C cb_C_finish 1 p c0 s m [.ref (xa x 7 c)].toArray x := cx
  have hx := cx.1.1
  have hb := cx.1.2.1
  have hl : lv_has ls 1 [(0, .ref (xa x 7 c))] := hl
  refine lv_aload_n (pc := 0) hx hb dd_C_finish_0 rfl (lv_at hl 0 rfl) ?_
  refine lv_iconst (pc := 1) (v := 0) hx hb dd_C_finish_1 (by decide) ?_
  refine p_C_C_phase (pc := 2) cx hP hS (by assumption) dd_C_finish_2 (fun H locs hP hS => ?_)
  refine lv_aload_n (pc := 5) hx hb dd_C_finish_5 rfl (lv_at hl 0 rfl) ?_
  refine lv_dup (pc := 6) hx hb dd_C_finish_6 rfl ?_
  refine g_C_C_finished (pc := 7) cx hP (by assumption) dd_C_finish_7 ?_
  refine lv_iconst (pc := 10) (v := 1) hx hb dd_C_finish_10 (by decide) ?_
  refine lv_iadd (pc := 11) hx hb dd_C_finish_11 ?_
  refine p_C_C_finished (pc := 12) cx hP hS (by assumption) dd_C_finish_12 (fun H locs hP hS => ?_)
  exact f_vret (pc := 15) cx hr hlocks hP hS (by simp [e_finish, mI_sI]) dd_C_finish_15
set_option maxHeartbeats 4000000 in
set_option maxRecDepth 100000 in
theorem ct_S_raiseSeal (l : Launch) (x : fy) (S : fm) (s0 : Nat) (t : Int32) (hv : fv x 10 s0) : Met l mn_S_raiseSeal (gw_ws mn_S_raiseSeal cb_S_raiseSeal 2 none) ({ frames := 1, cells := 0, slots := 0, locals := 21 } : Room) (fPc x (S) [.ref (xa x 10 s0), .int t]) (fQv x (e_raise S s0 t)) 0 0 (fun q => xs x ≤ q) := by
  refine f_met (by decide) (Nat.le_of_ble_eq_true rfl) ?_
  intro p e s m below meth c0 cx hr hlocks hnm hP hS ls hl
  have cx : fX rn_S cb_S_raiseSeal 2 p c0 s m [.ref (xa x 10 s0), .int t].toArray x := cx
  have hx := cx.1.1
  have hb := cx.1.2.1
  have hl : lv_has ls 2 [(0, .ref (xa x 10 s0)), (1, .int t)] := hl
  refine lv_aload_n (pc := 0) hx hb dd_S_raiseSeal_0 rfl (lv_at hl 0 rfl) ?_
  refine lv_aload_n (pc := 1) hx hb dd_S_raiseSeal_1 rfl (lv_at hl 0 rfl) ?_
  refine g_S_S_seal (pc := 2) cx hP (by assumption) dd_S_raiseSeal_2 ?_
  refine lv_iload_n (pc := 5) hx hb dd_S_raiseSeal_5 rfl (lv_at hl 1 rfl) ?_
  refine k_S_J_max (pc := 6) cx hl ⟨(Nat.le_of_ble_eq_true rfl), (Nat.le_of_ble_eq_true rfl), (Nat.le_of_ble_eq_true rfl), (Nat.le_of_ble_eq_true rfl)⟩ dd_S_raiseSeal_6 ?_
  refine p_S_S_seal (pc := 9) cx hP hS (by assumption) dd_S_raiseSeal_9 (fun H locs hP hS => ?_)
  exact f_vret (pc := 12) cx hr hlocks hP hS rfl dd_S_raiseSeal_12
set_option maxHeartbeats 4000000 in
set_option maxRecDepth 100000 in
theorem ct_S_placeOf (l : Launch) (x : fy) (S : fm) (s0 : Nat) (t : Int32) (hv : fv x 10 s0) (hv11 : fv x 11 s0) (hn : mU S 10 s0 3 ≤ xD x + 1) (hD : xD x ≤ 3) : Met l mn_S_placeOf (gw_ws mn_S_placeOf cb_S_placeOf 3 (some .int)) ({ frames := 0, cells := 0, slots := 0, locals := 0 } : Room) (fPc x (S) [.ref (xa x 10 s0), .int t]) (fQi x (S) (oI (q_place S s0 t))) 0 0 (fun q => xs x ≤ q) := by
  refine f_met (by decide) (Nat.le_of_ble_eq_true rfl) ?_
  intro p e s m below meth c0 cx hr hlocks hnm hP hS ls hl
  have cx : fX rn_S cb_S_placeOf 3 p c0 s m [.ref (xa x 10 s0), .int t].toArray x := cx
  have hx := cx.1.1
  have hb := cx.1.2.1
  have hl : lv_has ls 3 [(0, .ref (xa x 10 s0)), (1, .int t)] := hl
  have loop : ∀ (n i : Nat), i ≤ mU S 10 s0 3 → mU S 10 s0 3 - i < n → (∀ k, k < i → ¬ mI S 11 s0 k = t) → ∀ ls : Array Slot, lv_has ls 3 [(2, .int (nI i)), (0, .ref (xa x 10 s0)), (1, .int t)] → W p l e ({ frames := 0, cells := 0, slots := 0, locals := 0 } : Room) s m [.ref (xa x 10 s0), .int t].toArray below meth c0 s.heap [] 0 0 (MQ below (fQi x (S) (oI (q_place S s0 t))) [.ref (xa x 10 s0), .int t].toArray s 0 0 (fun q => xs x ≤ q)) (F0 m 2 ls []) := by
    intro n
    induction n with
    | zero => intro i _ h; omega
    | succ n ih =>
      intro i hi hn1 hk ls hl
      refine lv_iload_n (pc := 2) hx hb dd_S_placeOf_2 rfl (lv_at hl 0 rfl) ?_
      refine lv_aload_n (pc := 3) hx hb dd_S_placeOf_3 rfl (lv_at hl 1 rfl) ?_
      refine g_S_S_count (pc := 4) cx hP (by assumption) dd_S_placeOf_4 ?_
      refine lv_icmp_ge (pc := 7) (tgt := 28) hx hb dd_S_placeOf_7 (by decide) (fun h7 => ?_) (fun h7 => ?_)
      · -- 7: t to 28
        have h := (nI_leI (by omega) (by omega)).mp h7
        have e0 : (-1 : Int32) = oI (q_place S s0 t) := by unfold q_place; rw [fr_none (fun k hk2 => decide_eq_false (hk k (by omega)))]; rfl
        refine lv_iconst (pc := 28) (v := (-1)) hx hb dd_S_placeOf_28 (by decide) ?_
        exact f_iret (pc := 29) cx hr hlocks hP hS e0 rfl dd_S_placeOf_29
      · -- 7: f to 10
        have h : i < mU S 10 s0 3 := Nat.lt_of_not_le (fun q => h7 ((nI_leI (by omega) (by omega)).mpr q))
        refine lv_aload_n (pc := 10) hx hb dd_S_placeOf_10 rfl (lv_at hl 1 rfl) ?_
        refine g_S_S_tags (pc := 11) cx hP (by assumption) dd_S_placeOf_11 ?_
        refine lv_iload_n (pc := 14) hx hb dd_S_placeOf_14 rfl (lv_at hl 0 rfl) ?_
        refine f_iald (pc := 15) cx hP (fv.at (by assumption) _) rfl rfl (by omega) dd_S_placeOf_15 ?_
        refine lv_iload_n (pc := 16) hx hb dd_S_placeOf_16 rfl (lv_at hl 2 rfl) ?_
        refine lv_icmp_ne (pc := 17) (tgt := 22) hx hb dd_S_placeOf_17 (by decide) (fun h17 => ?_) (fun h17 => ?_)
        · -- 17: t to 22
          refine lv_iinc (pc := 22) (k := 0) (lv' := [(2, _), (0, _), (1, _)]) hx hb dd_S_placeOf_22 hl rfl (f_inc1 i) (Nat.le_of_ble_eq_true rfl) rfl (fun ls hl => ?_)
          refine lv_goto (pc := 25) (tgt := 2) hx hb dd_S_placeOf_25 (by decide) ?_
          exact ih (i + 1) (by omega) (by omega) (lt_s hk h17) ls (lv_sub hl [0, 1, 2] rfl)
        · -- 17: f to 20
          have e0 : nI i = oI (q_place S s0 t) := by unfold q_place; rw [fr_some h (decide_eq_true h17) (fun k hk2 => decide_eq_false (hk k hk2))]; rfl
          refine lv_iload_n (pc := 20) hx hb dd_S_placeOf_20 rfl (lv_at hl 0 rfl) ?_
          exact f_iret (pc := 21) cx hr hlocks hP hS e0 rfl dd_S_placeOf_21
  refine lv_iconst (pc := 0) (v := nI 0) hx hb dd_S_placeOf_0 (by decide) ?_
  refine lv_istore_n (pc := 1) (lv' := [(2, _), (0, _), (1, _)]) hx hb dd_S_placeOf_1 rfl hl (Nat.le_of_ble_eq_true rfl) rfl (fun ls hl => ?_)
  exact loop (mU S 10 s0 3 + 1) 0 (by omega) (by omega) lt_0 ls (lv_sub hl [0, 1, 2] rfl)
set_option maxHeartbeats 4000000 in
set_option maxRecDepth 100000 in
theorem ct_S_enclose (l : Launch) (x : fy) (S : fm) (s0 a : Nat) (hv : fv x 10 s0) (hv11 : fv x 11 s0) (hv12 : fv x 12 s0) (ha : fvL x S a) (hn : mU S 10 s0 3 ≤ xD x + 1) (hD : xD x ≤ 3) : Met l mn_S_enclose (gw_ws mn_S_enclose cb_S_enclose 3 none) ({ frames := 1, cells := 0, slots := 0, locals := 22 } : Room) (fPc x (S) [.ref (xa x 10 s0), .ref a]) (fQv x (e_encl S s0 a)) 0 0 (fun q => xs x ≤ q) := by
  refine f_met (by decide) (Nat.le_of_ble_eq_true rfl) ?_
  intro p e s m below meth c0 cx hr hlocks hnm hP hS ls hl
  have cx : fX rn_S cb_S_enclose 3 p c0 s m [.ref (xa x 10 s0), .ref a].toArray x := cx
  have hx := cx.1.1
  have hb := cx.1.2.1
  have hl : lv_has ls 3 [(0, .ref (xa x 10 s0)), (1, .ref a)] := hl
  refine lv_aload_n (pc := 0) hx hb dd_S_enclose_0 rfl (lv_at hl 0 rfl) ?_
  refine lv_aload_n (pc := 1) hx hb dd_S_enclose_1 rfl (lv_at hl 1 rfl) ?_
  refine g_S_L_tag (pc := 2) cx hP (by assumption) dd_S_enclose_2 ?_
  refine k_S_S_placeOf (pc := 5) cx hl hP hS (by assumption) (ct_S_placeOf l x _ s0 _ hv hv11 hn hD) ⟨⟨rfl, rfl⟩, ⟨(Nat.le_of_ble_eq_true rfl), (Nat.le_of_ble_eq_true rfl)⟩, (Nat.le_of_ble_eq_true rfl), (Nat.le_of_ble_eq_true rfl)⟩ (Nat.le_of_ble_eq_true rfl) dd_S_enclose_5 (fun H locs hP hS => ?_)
  refine lv_istore_n (pc := 8) (lv' := [(2, _), (0, _), (1, _)]) hx hb dd_S_enclose_8 rfl hl (Nat.le_of_ble_eq_true rfl) rfl (fun ls hl => ?_)
  cases hq : q_place S s0 (mI S 15 a 2) with
  | none =>
    have e0 : S = e_encl S s0 a := by unfold e_encl; rw [hq]
    rw [hq] at hl
    refine lv_iload_n (pc := 9) hx hb dd_S_enclose_9 rfl (lv_at hl 0 rfl) ?_
    refine lv_if_lt (pc := 10) (tgt := 28) hx hb dd_S_enclose_10 (by decide) (fun h10 => ?_) (fun h10 => ?_)
    · -- 10: t to 28
      exact f_vret (pc := 28) cx hr hlocks hP hS e0 dd_S_enclose_28
    · -- 10: f to 13
      exact absurd (by decide) h10
  | some i =>
    have hi : i < mU S 10 s0 3 := List.mem_range.mp (List.mem_of_find?_eq_some hq)
    have e0 : sJ (sB S 15 a 5 true) 15 a 3 (mJ S 12 s0 i) = e_encl S s0 a := by unfold e_encl; rw [hq]
    rw [hq] at hl
    refine lv_iload_n (pc := 9) hx hb dd_S_enclose_9 rfl (lv_at hl 0 rfl) ?_
    refine lv_if_lt (pc := 10) (tgt := 28) hx hb dd_S_enclose_10 (by decide) (fun h10 => ?_) (fun h10 => ?_)
    · -- 10: t to 28
      exact absurd h10 (nI_pos (by omega))
    · -- 10: f to 13
      refine lv_aload_n (pc := 13) hx hb dd_S_enclose_13 rfl (lv_at hl 2 rfl) ?_
      refine lv_iconst (pc := 14) (v := b2 true) hx hb dd_S_enclose_14 (by decide) ?_
      refine p_S_L_bearsFragment (pc := 15) cx hP hS (by assumption) rfl dd_S_enclose_15 (fun H locs hP hS => ?_)
      refine lv_aload_n (pc := 18) hx hb dd_S_enclose_18 rfl (lv_at hl 2 rfl) ?_
      refine lv_aload_n (pc := 19) hx hb dd_S_enclose_19 rfl (lv_at hl 1 rfl) ?_
      refine g_S_S_fragments (pc := 20) cx hP (by assumption) dd_S_enclose_20 ?_
      refine lv_iload_n (pc := 23) hx hb dd_S_enclose_23 rfl (lv_at hl 0 rfl) ?_
      refine f_lald (pc := 24) cx hP (fv.at (by assumption) _) rfl rfl (by omega) dd_S_enclose_24 ?_
      refine p_S_L_fragment (pc := 25) cx hP hS (by assumption) dd_S_enclose_25 (fun H locs hP hS => ?_)
      exact f_vret (pc := 28) cx hr hlocks hP hS e0 dd_S_enclose_28
set_option maxHeartbeats 4000000 in
set_option maxRecDepth 100000 in
theorem ct_S_store (l : Launch) (x : fy) (S : fm) (s0 : Nat) (t : Int32) (w : Int64) (hv : fv x 10 s0) (hv11 : fv x 11 s0) (hv12 : fv x 12 s0) (hn : mU S 10 s0 3 ≤ xD x + 1) (hD : xD x ≤ 3) : Met l mn_S_store (gw_ws mn_S_store cb_S_store 5 none) ({ frames := 1, cells := 0, slots := 0, locals := 21 } : Room) (fPc x (S) [.ref (xa x 10 s0), .int t, .long w]) (fQv x (e_store x S s0 t w)) 0 0 (fun q => xs x ≤ q) := by
  refine f_met (by decide) (Nat.le_of_ble_eq_true rfl) ?_
  intro p e s m below meth c0 cx hr hlocks hnm hP hS ls hl
  have cx : fX rn_S cb_S_store 5 p c0 s m [.ref (xa x 10 s0), .int t, .long w].toArray x := cx
  have hx := cx.1.1
  have hb := cx.1.2.1
  have hl : lv_has ls 5 [(0, .ref (xa x 10 s0)), (1, .int t), (2, .long w)] := hl
  have fin : ∀ (q : Nat) (H : Heap) (locs : List Loc), q ≤ mU S 10 s0 3 → insp (mI S 11 s0) t (mU S 10 s0 3) = q → fP x (rJ (rI S 11 s0 (shA (mI S 11 s0) (q) (mU S 10 s0 3))) 12 s0 (shA (mJ S 12 s0) (q) (mU S 10 s0 3))) H → fS x s.heap H locs → ∀ ls : Array Slot, lv_has ls 5 [(4, .int (nI q)), (0, .ref (xa x 10 s0)), (1, .int t), (2, .long w)] → W p l e ({ frames := 1, cells := 0, slots := 0, locals := 21 } : Room) s m [.ref (xa x 10 s0), .int t, .long w].toArray below meth c0 H locs 0 0 (MQ below (fQv x (e_store x S s0 t w)) [.ref (xa x 10 s0), .int t, .long w].toArray s 0 0 (fun q => xs x ≤ q)) (F0 m 62 ls []) := by
    intro q H locs hq hi hP hS ls hl
    refine lv_aload_n (pc := 62) hx hb dd_S_store_62 rfl (lv_at hl 1 rfl) ?_
    refine g_S_S_tags (pc := 63) cx hP (by assumption) dd_S_store_63 ?_
    refine lv_iload (pc := 66) hx hb dd_S_store_66 (lv_at hl 0 rfl) ?_
    refine lv_iload_n (pc := 68) hx hb dd_S_store_68 rfl (lv_at hl 2 rfl) ?_
    refine f_iast (pc := 69) cx hP hS (fv.at (by assumption) _) (fun _ => rfl) rfl (by omega) dd_S_store_69 (fun H locs hP hS => ?_)
    refine lv_aload_n (pc := 70) hx hb dd_S_store_70 rfl (lv_at hl 1 rfl) ?_
    refine g_S_S_fragments (pc := 71) cx hP (by assumption) dd_S_store_71 ?_
    refine lv_iload (pc := 74) hx hb dd_S_store_74 (lv_at hl 0 rfl) ?_
    refine lv_lload_n (pc := 76) hx hb dd_S_store_76 rfl (lv_at hl 3 rfl) ?_
    refine f_last (pc := 77) cx hP hS (fv.at (by assumption) _) (fun _ => rfl) rfl (by omega) dd_S_store_77 (fun H locs hP hS => ?_)
    have hP := f_eqS (T' := rJ (rI S 11 s0 (insA (mI S 11 s0) q (mU S 10 s0 3) t)) 12 s0 (insA (mJ S 12 s0) q (mU S 10 s0 3) w)) hP (by rw [sI_rJ, sI_rI, sJ_rJ]; rfl)
    refine lv_aload_n (pc := 78) hx hb dd_S_store_78 rfl (lv_at hl 1 rfl) ?_
    refine lv_aload_n (pc := 79) hx hb dd_S_store_79 rfl (lv_at hl 1 rfl) ?_
    refine g_S_S_count (pc := 80) cx hP (by assumption) dd_S_store_80 ?_
    refine lv_iconst (pc := 83) (v := 1) hx hb dd_S_store_83 (by decide) ?_
    refine lv_iadd (pc := 84) hx hb dd_S_store_84 ?_
    refine f_topi (nI_1 _) ?_
    refine lv_aload_n (pc := 85) hx hb dd_S_store_85 rfl (lv_at hl 1 rfl) ?_
    refine g_S_S_mostTags (pc := 86) cx hP (by assumption) dd_S_store_86 ?_
    refine k_S_J_min (pc := 89) cx hl ⟨(Nat.le_of_ble_eq_true rfl), (Nat.le_of_ble_eq_true rfl), (Nat.le_of_ble_eq_true rfl), (Nat.le_of_ble_eq_true rfl)⟩ dd_S_store_89 ?_
    refine f_topi (f_min (show mU S 10 s0 3 + 1 < 2 ^ 31 by omega) (by omega)) ?_
    refine p_S_S_count (pc := 92) cx hP hS (by assumption) rfl dd_S_store_92 (fun H locs hP hS => ?_)
    exact f_vret (pc := 95) cx hr hlocks hP hS (by unfold e_store; rw [hi]; rfl) dd_S_store_95
  have loop : ∀ (n q : Nat) (H : Heap) (locs : List Loc), q ≤ mU S 10 s0 3 → q < n → insp (mI S 11 s0) t (mU S 10 s0 3) = insp (mI S 11 s0) t q → fP x (rJ (rI S 11 s0 (shA (mI S 11 s0) (q) (mU S 10 s0 3))) 12 s0 (shA (mJ S 12 s0) (q) (mU S 10 s0 3))) H → fS x s.heap H locs → ∀ ls : Array Slot, lv_has ls 5 [(4, .int (nI q)), (0, .ref (xa x 10 s0)), (1, .int t), (2, .long w)] → W p l e ({ frames := 1, cells := 0, slots := 0, locals := 21 } : Room) s m [.ref (xa x 10 s0), .int t, .long w].toArray below meth c0 H locs 0 0 (MQ below (fQv x (e_store x S s0 t w)) [.ref (xa x 10 s0), .int t, .long w].toArray s 0 0 (fun q => xs x ≤ q)) (F0 m 6 ls []) := by
    intro n
    induction n with
    | zero => intro q H locs _ h; omega
    | succ n ih =>
      intro q H locs hq hn1 hi hP hS ls hl
      cases q with
      | zero =>
        refine lv_iload (pc := 6) hx hb dd_S_store_6 (lv_at hl 0 rfl) ?_
        refine lv_if_le (pc := 8) (tgt := 62) hx hb dd_S_store_8 (by decide) (fun h8 => ?_) (fun h8 => ?_)
        · -- 8: t to 62
          exact fin 0 _ _ (by omega) hi hP hS ls (lv_sub hl [0, 1, 2, 3] rfl)
        · -- 8: f to 11
          exact absurd (by decide) h8
      | succ q =>
        have hr1 : mI (rJ (rI S 11 s0 (shA (mI S 11 s0) (q + 1) (mU S 10 s0 3))) 12 s0 (shA (mJ S 12 s0) (q + 1) (mU S 10 s0 3))) 11 s0 = shA (mI S 11 s0) (q + 1) (mU S 10 s0 3) := u2_s
        have hr2 : mJ (rJ (rI S 11 s0 (shA (mI S 11 s0) (q + 1) (mU S 10 s0 3))) 12 s0 (shA (mJ S 12 s0) (q + 1) (mU S 10 s0 3))) 12 s0 = shA (mJ S 12 s0) (q + 1) (mU S 10 s0 3) := u2_s
        refine lv_iload (pc := 6) hx hb dd_S_store_6 (lv_at hl 0 rfl) ?_
        refine lv_if_le (pc := 8) (tgt := 62) hx hb dd_S_store_8 (by decide) (fun h8 => ?_) (fun h8 => ?_)
        · -- 8: t to 62
          exact absurd h8 (nI_nle (by omega) (by omega))
        · -- 8: f to 11
          refine lv_aload_n (pc := 11) hx hb dd_S_store_11 rfl (lv_at hl 1 rfl) ?_
          refine g_S_S_tags (pc := 12) cx hP (by assumption) dd_S_store_12 ?_
          refine lv_iload (pc := 15) hx hb dd_S_store_15 (lv_at hl 0 rfl) ?_
          refine lv_iconst (pc := 17) (v := 1) hx hb dd_S_store_17 (by decide) ?_
          refine lv_isub (pc := 18) hx hb dd_S_store_18 ?_
          refine f_topi (nI_pred q) ?_
          refine f_iald (pc := 19) cx hP (fv.at (by assumption) _) rfl rfl (by omega) dd_S_store_19 ?_
          refine lv_iload_n (pc := 20) hx hb dd_S_store_20 rfl (lv_at hl 2 rfl) ?_
          refine lv_icmp_ge (pc := 21) (tgt := 62) hx hb dd_S_store_21 (by decide) (fun h21 => ?_) (fun h21 => ?_)
          · -- 21: t to 62
            have hlt : ¬ mI S 11 s0 q < t := by rw [hr1, shA_at] at h21; exact Int32.not_lt.mpr h21
            exact fin (q + 1) _ _ (by omega) (by rw [hi]; unfold insp; rw [if_neg hlt]) hP hS ls (lv_sub hl [0, 1, 2, 3] rfl)
          · -- 21: f to 24
            have hlt : mI S 11 s0 q < t := by rw [hr1, shA_at] at h21; exact Int32.not_le.mp h21
            refine lv_aload_n (pc := 24) hx hb dd_S_store_24 rfl (lv_at hl 1 rfl) ?_
            refine g_S_S_tags (pc := 25) cx hP (by assumption) dd_S_store_25 ?_
            refine lv_iload (pc := 28) hx hb dd_S_store_28 (lv_at hl 0 rfl) ?_
            refine lv_aload_n (pc := 30) hx hb dd_S_store_30 rfl (lv_at hl 1 rfl) ?_
            refine g_S_S_tags (pc := 31) cx hP (by assumption) dd_S_store_31 ?_
            refine lv_iload (pc := 34) hx hb dd_S_store_34 (lv_at hl 0 rfl) ?_
            refine lv_iconst (pc := 36) (v := 1) hx hb dd_S_store_36 (by decide) ?_
            refine lv_isub (pc := 37) hx hb dd_S_store_37 ?_
            refine f_topi (nI_pred q) ?_
            refine f_iald (pc := 38) cx hP (fv.at (by assumption) _) rfl rfl (by omega) dd_S_store_38 ?_
            refine f_iast (pc := 39) cx hP hS (fv.at (by assumption) _) (fun _ => rfl) rfl (by omega) dd_S_store_39 (fun H locs hP hS => ?_)
            refine lv_aload_n (pc := 40) hx hb dd_S_store_40 rfl (lv_at hl 1 rfl) ?_
            refine g_S_S_fragments (pc := 41) cx hP (by assumption) dd_S_store_41 ?_
            refine lv_iload (pc := 44) hx hb dd_S_store_44 (lv_at hl 0 rfl) ?_
            refine lv_aload_n (pc := 46) hx hb dd_S_store_46 rfl (lv_at hl 1 rfl) ?_
            refine g_S_S_fragments (pc := 47) cx hP (by assumption) dd_S_store_47 ?_
            refine lv_iload (pc := 50) hx hb dd_S_store_50 (lv_at hl 0 rfl) ?_
            refine lv_iconst (pc := 52) (v := 1) hx hb dd_S_store_52 (by decide) ?_
            refine lv_isub (pc := 53) hx hb dd_S_store_53 ?_
            refine f_topi (nI_pred q) ?_
            refine f_lald (pc := 54) cx hP (fv.at (by assumption) _) rfl rfl (by omega) dd_S_store_54 ?_
            refine f_last (pc := 55) cx hP hS (fv.at (by assumption) _) (fun _ => rfl) rfl (by omega) dd_S_store_55 (fun H locs hP hS => ?_)
            have hP := f_eqS (T' := rJ (rI S 11 s0 (shA (mI S 11 s0) (q) (mU S 10 s0 3))) 12 s0 (shA (mJ S 12 s0) (q) (mU S 10 s0 3))) hP (by rw [mJ_sI, hr1, hr2, shA_at, shA_at, sI_rJ, sI_rI, sJ_rJ, shA_step _ _ _ (by omega), shA_step _ _ _ (by omega)])
            refine lv_iinc (pc := 56) (k := 0) (lv' := [(4, _), (0, _), (1, _), (2, _)]) hx hb dd_S_store_56 hl rfl (f_dec1 q) (Nat.le_of_ble_eq_true rfl) rfl (fun ls hl => ?_)
            refine lv_goto (pc := 59) (tgt := 6) hx hb dd_S_store_59 (by decide) ?_
            exact ih q _ _ (by omega) (by omega) (by rw [hi]; show (if mI S 11 s0 q < t then _ else _) = _; rw [if_pos hlt]) hP hS ls (lv_sub hl [0, 1, 2, 3] rfl)
  refine lv_aload_n (pc := 0) hx hb dd_S_store_0 rfl (lv_at hl 0 rfl) ?_
  refine g_S_S_count (pc := 1) cx hP (by assumption) dd_S_store_1 ?_
  refine lv_istore (pc := 4) (lv' := [(4, _), (0, _), (1, _), (2, _)]) hx hb dd_S_store_4 hl (Nat.le_of_ble_eq_true rfl) rfl (fun ls hl => ?_)
  have hP := f_eqS (T' := rJ (rI S 11 s0 (shA (mI S 11 s0) (mU S 10 s0 3) (mU S 10 s0 3))) 12 s0 (shA (mJ S 12 s0) (mU S 10 s0 3) (mU S 10 s0 3))) hP (by rw [shA_0, shA_0, rI_self, rJ_self])
  exact loop (mU S 10 s0 3 + 1) (mU S 10 s0 3) _ _ (Nat.le_refl _) (by omega) rfl hP hS ls (lv_sub hl [0, 1, 2, 3] rfl)
set_option maxHeartbeats 4000000 in
set_option maxRecDepth 100000 in
theorem ct_S_answer (l : Launch) (x : fy) (S : fm) (s0 a : Nat) (hv : fv x 10 s0) (hv11 : fv x 11 s0) (hv12 : fv x 12 s0) (ha : fvL x S a) (hn : mU S 10 s0 3 ≤ xD x + 1) (hD : xD x ≤ 3) : Met l mn_S_answer (gw_ws mn_S_answer cb_S_answer 2 none) ({ frames := 2, cells := 0, slots := 0, locals := 45 } : Room) (fPc x (S) [.ref (xa x 10 s0), .ref a]) (fQv x (e_answer x S s0 a)) 0 0 (fun q => xs x ≤ q) := by
  refine f_met (by decide) (Nat.le_of_ble_eq_true rfl) ?_
  intro p e s m below meth c0 cx hr hlocks hnm hP hS ls hl
  have cx : fX rn_S cb_S_answer 2 p c0 s m [.ref (xa x 10 s0), .ref a].toArray x := cx
  have hx := cx.1.1
  have hb := cx.1.2.1
  have hl : lv_has ls 2 [(0, .ref (xa x 10 s0)), (1, .ref a)] := hl
  refine lv_aload_n (pc := 0) hx hb dd_S_answer_0 rfl (lv_at hl 1 rfl) ?_
  refine g_S_L_phase (pc := 1) cx hP (by assumption) dd_S_answer_1 ?_
  by_cases hs2 : mI S 15 a 0 = 2
  · refine f_topi hs2 ?_
    refine lv_tableIn (pc := 4) (off := 32) (tgt := 36) hx hb dd_S_answer_4 (by decide) (by decide) (by decide) (by decide) ?_
    refine lv_aload_n (pc := 36) hx hb dd_S_answer_36 rfl (lv_at hl 0 rfl) ?_
    refine lv_aload_n (pc := 37) hx hb dd_S_answer_37 rfl (lv_at hl 1 rfl) ?_
    refine g_S_L_tag (pc := 38) cx hP (by assumption) dd_S_answer_38 ?_
    refine lv_aload_n (pc := 41) hx hb dd_S_answer_41 rfl (lv_at hl 1 rfl) ?_
    refine g_S_L_fragment (pc := 42) cx hP (by assumption) dd_S_answer_42 ?_
    refine k_S_S_store (pc := 45) cx hl hP hS (by assumption) (ct_S_store l x _ s0 _ _ hv hv11 hv12 hn hD) ⟨⟨rfl, rfl⟩, ⟨(Nat.le_of_ble_eq_true rfl), (Nat.le_of_ble_eq_true rfl)⟩, (Nat.le_of_ble_eq_true rfl), (Nat.le_of_ble_eq_true rfl)⟩ (Nat.le_of_ble_eq_true rfl) dd_S_answer_45 (fun H locs hP hS => ?_)
    refine lv_goto (pc := 48) (tgt := 86) hx hb dd_S_answer_48 (by decide) ?_
    exact f_vret (pc := 86) cx hr hlocks hP hS (by simp [e_answer, *]) dd_S_answer_86
  by_cases hs3 : mI S 15 a 0 = 3
  · refine f_topi hs3 ?_
    refine lv_tableIn (pc := 4) (off := 47) (tgt := 51) hx hb dd_S_answer_4 (by decide) (by decide) (by decide) (by decide) ?_
    refine lv_aload_n (pc := 51) hx hb dd_S_answer_51 rfl (lv_at hl 0 rfl) ?_
    refine lv_aload_n (pc := 52) hx hb dd_S_answer_52 rfl (lv_at hl 1 rfl) ?_
    refine g_S_L_tag (pc := 53) cx hP (by assumption) dd_S_answer_53 ?_
    refine k_S_S_raiseSeal (pc := 56) cx hl hP hS (by assumption) (ct_S_raiseSeal l x _ s0 _ hv) ⟨⟨rfl, rfl⟩, ⟨(Nat.le_of_ble_eq_true rfl), (Nat.le_of_ble_eq_true rfl)⟩, (Nat.le_of_ble_eq_true rfl), (Nat.le_of_ble_eq_true rfl)⟩ (Nat.le_of_ble_eq_true rfl) dd_S_answer_56 (fun H locs hP hS => ?_)
    refine lv_goto (pc := 59) (tgt := 86) hx hb dd_S_answer_59 (by decide) ?_
    exact f_vret (pc := 86) cx hr hlocks hP hS (by simp [e_answer, *]) dd_S_answer_86
  by_cases hs4 : mI S 15 a 0 = 4
  · refine f_topi hs4 ?_
    refine lv_tableIn (pc := 4) (off := 74) (tgt := 78) hx hb dd_S_answer_4 (by decide) (by decide) (by decide) (by decide) ?_
    refine lv_aload_n (pc := 78) hx hb dd_S_answer_78 rfl (lv_at hl 1 rfl) ?_
    refine lv_aload_n (pc := 79) hx hb dd_S_answer_79 rfl (lv_at hl 0 rfl) ?_
    refine g_S_S_seal (pc := 80) cx hP (by assumption) dd_S_answer_80 ?_
    refine p_S_L_seal (pc := 83) cx hP hS (by assumption) dd_S_answer_83 (fun H locs hP hS => ?_)
    exact f_vret (pc := 86) cx hr hlocks hP hS (by simp [e_answer, *]) dd_S_answer_86
  by_cases hs5 : mI S 15 a 0 = 5
  · refine f_topi hs5 ?_
    refine lv_tableIn (pc := 4) (off := 58) (tgt := 62) hx hb dd_S_answer_4 (by decide) (by decide) (by decide) (by decide) ?_
    refine lv_aload_n (pc := 62) hx hb dd_S_answer_62 rfl (lv_at hl 0 rfl) ?_
    refine lv_aload_n (pc := 63) hx hb dd_S_answer_63 rfl (lv_at hl 1 rfl) ?_
    refine g_S_L_tag (pc := 64) cx hP (by assumption) dd_S_answer_64 ?_
    refine k_S_S_raiseSeal (pc := 67) cx hl hP hS (by assumption) (ct_S_raiseSeal l x _ s0 _ hv) ⟨⟨rfl, rfl⟩, ⟨(Nat.le_of_ble_eq_true rfl), (Nat.le_of_ble_eq_true rfl)⟩, (Nat.le_of_ble_eq_true rfl), (Nat.le_of_ble_eq_true rfl)⟩ (Nat.le_of_ble_eq_true rfl) dd_S_answer_67 (fun H locs hP hS => ?_)
    refine lv_aload_n (pc := 70) hx hb dd_S_answer_70 rfl (lv_at hl 0 rfl) ?_
    refine lv_aload_n (pc := 71) hx hb dd_S_answer_71 rfl (lv_at hl 1 rfl) ?_
    refine k_S_S_enclose (pc := 72) cx hl hP hS (by assumption) (ct_S_enclose l x _ s0 a hv hv11 hv12 ha hn hD) ⟨⟨rfl, rfl⟩, ⟨(Nat.le_of_ble_eq_true rfl), (Nat.le_of_ble_eq_true rfl)⟩, (Nat.le_of_ble_eq_true rfl), (Nat.le_of_ble_eq_true rfl)⟩ (Nat.le_of_ble_eq_true rfl) dd_S_answer_72 (fun H locs hP hS => ?_)
    refine lv_goto (pc := 75) (tgt := 86) hx hb dd_S_answer_75 (by decide) ?_
    exact f_vret (pc := 86) cx hr hlocks hP hS (by simp [e_answer, *]) dd_S_answer_86
  have hn2 := lv_neT (a := 2) hs2 (by decide)
  have hn3 := lv_neT (a := 3) hs3 (by decide)
  have hn4 := lv_neT (a := 4) hs4 (by decide)
  have hn5 := lv_neT (a := 5) hs5 (by decide)
  refine lv_tableOut (pc := 4) (tgt := 78) hx hb dd_S_answer_4 (by omega) (by decide) ?_
  refine lv_aload_n (pc := 78) hx hb dd_S_answer_78 rfl (lv_at hl 1 rfl) ?_
  refine lv_aload_n (pc := 79) hx hb dd_S_answer_79 rfl (lv_at hl 0 rfl) ?_
  refine g_S_S_seal (pc := 80) cx hP (by assumption) dd_S_answer_80 ?_
  refine p_S_L_seal (pc := 83) cx hP hS (by assumption) dd_S_answer_83 (fun H locs hP hS => ?_)
  exact f_vret (pc := 86) cx hr hlocks hP hS (by simp [e_answer, *]) dd_S_answer_86
set_option maxHeartbeats 4000000 in
set_option maxRecDepth 100000 in
theorem ct_L_init (l : Launch) (x : fy) (S : fm) (a : Nat) (ph bg tg : Int32) (ha : fvL x S a) : Met l mn_L_init (gw_ws mn_L_init cb_L_init 4 none) ({ frames := 1, cells := 0, slots := 0, locals := 21 } : Room) (fPc x (S) [.ref a, .int ph, .int bg, .int tg]) (fQv x (e_initL S a ph bg tg)) 0 0 (fun q => xs x ≤ q) := by
  refine f_met (by decide) (Nat.le_of_ble_eq_true rfl) ?_
  intro p e s m below meth c0 cx hr hlocks hnm hP hS ls hl
  have cx : fX rn_L cb_L_init 4 p c0 s m [.ref a, .int ph, .int bg, .int tg].toArray x := cx
  have hx := cx.1.1
  have hb := cx.1.2.1
  have hl : lv_has ls 4 [(0, .ref a), (1, .int ph), (2, .int bg), (3, .int tg)] := hl
  refine lv_aload_n (pc := 0) hx hb dd_L_init_0 rfl (lv_at hl 0 rfl) ?_
  refine f_oi (pc := 1) ml_L_O_init cx hl (Nat.le_of_ble_eq_true rfl) (Nat.le_of_ble_eq_true rfl) dd_L_init_1 ?_
  refine lv_aload_n (pc := 4) hx hb dd_L_init_4 rfl (lv_at hl 0 rfl) ?_
  refine lv_iload_n (pc := 5) hx hb dd_L_init_5 rfl (lv_at hl 1 rfl) ?_
  refine p_L_L_phase (pc := 6) cx hnm hP hS (by assumption) dd_L_init_6 (fun H locs hP hS => ?_)
  refine lv_aload_n (pc := 9) hx hb dd_L_init_9 rfl (lv_at hl 0 rfl) ?_
  refine lv_iload_n (pc := 10) hx hb dd_L_init_10 rfl (lv_at hl 2 rfl) ?_
  refine p_L_L_beginning (pc := 11) cx hnm hP hS (by assumption) dd_L_init_11 (fun H locs hP hS => ?_)
  refine lv_aload_n (pc := 14) hx hb dd_L_init_14 rfl (lv_at hl 0 rfl) ?_
  refine lv_iload_n (pc := 15) hx hb dd_L_init_15 rfl (lv_at hl 3 rfl) ?_
  refine p_L_L_tag (pc := 16) cx hnm hP hS (by assumption) dd_L_init_16 (fun H locs hP hS => ?_)
  exact f_vret (pc := 19) cx hr hlocks hP hS rfl dd_L_init_19
