-- contracts of Row, by wip/whole/gen/c_row.py
theorem tkA_step {α : Type} (f : Nat → α) (j i : Nat) (h : j ≤ i) : va_up (tkA f j i) i (f (i + 1)) = tkA f j (i + 1) := by
  funext q
  unfold va_up tkA
  by_cases hq : q = i
  · rw [if_pos hq, if_pos (by omega), hq]
  · rw [if_neg hq]
    by_cases h2 : j ≤ q ∧ q < i
    · rw [if_pos h2, if_pos (by omega)]
    · rw [if_neg h2, if_neg (by omega)]
theorem tkA_0 {α : Type} (f : Nat → α) (j : Nat) : tkA f j j = f := by
  funext q
  unfold tkA
  rw [if_neg (by omega)]
theorem tkA_at {α : Type} (f : Nat → α) (j i : Nat) : tkA f j i (i + 1) = f (i + 1) := if_neg (by omega)
theorem loA_step (f : Nat → Option Nat) (i : Nat) : va_up (loA f i) i none = loA f (i + 1) := by
  funext q
  unfold va_up loA
  by_cases hq : q = i
  · rw [if_pos hq, if_pos (by omega)]
  · rw [if_neg hq]
    by_cases h2 : q < i
    · rw [if_pos h2, if_pos (by omega)]
    · rw [if_neg h2, if_neg (by omega)]
theorem loA_0 (f : Nat → Option Nat) : loA f 0 = f := by
  funext q
  unfold loA
  rw [if_neg (by omega)]
theorem mU_same (S : fm) (k i j v : Nat) : mU (sU S k i j v) k i j = v := by rw [mU_sU, if_pos ⟨rfl, rfl, rfl⟩]
set_option maxHeartbeats 4000000 in
set_option maxRecDepth 100000 in
theorem ct_R_append (l : Launch) (x : fy) (S : fm) (r a : Nat) (hv : fv x 13 r) (hv2 : fv x 14 r) (ha : fvL x S a) (hn : mU S 13 r 1 ≤ 7) : Met l mn_R_append (gw_ws mn_R_append cb_R_append 2 none) ({ frames := 0, cells := 0, slots := 0, locals := 0 } : Room) (fPc x (S) [.ref (xa x 13 r), .ref a]) (fQv x (e_app S r a)) 0 0 (fun q => xs x ≤ q) := by
  refine f_met (by decide) (Nat.le_of_ble_eq_true rfl) ?_
  intro p e s m below meth c0 cx hr hlocks hnm hP hS ls hl
  have cx : fX rn_R cb_R_append 2 p c0 s m [.ref (xa x 13 r), .ref a].toArray x := cx
  have hx := cx.1.1
  have hb := cx.1.2.1
  have hl : lv_has ls 2 [(0, .ref (xa x 13 r)), (1, .ref a)] := hl
  refine lv_aload_n (pc := 0) hx hb dd_R_append_0 rfl (lv_at hl 0 rfl) ?_
  refine g_R_R_size (pc := 1) cx hP (by assumption) dd_R_append_1 ?_
  refine lv_aload_n (pc := 4) hx hb dd_R_append_4 rfl (lv_at hl 0 rfl) ?_
  refine g_R_R_letters (pc := 5) cx hP (by assumption) dd_R_append_5 ?_
  refine f_alen 6 (pc := 8) cx hP (fv.at (by assumption) _) rfl rfl dd_R_append_8 ?_
  refine lv_icmp_ge (pc := 9) (tgt := 32) hx hb dd_R_append_9 (by decide) (fun h9 => ?_) (fun h9 => ?_)
  · -- 9: t to 32
    have h := (nI_leI (by omega) (by omega)).mp h9
    have e0 : S = e_app S r a := by unfold e_app; rw [if_neg (by omega)]
    exact f_vret (pc := 32) cx hr hlocks hP hS e0 dd_R_append_32
  · -- 9: f to 12
    have h : mU S 13 r 1 < 7 := Nat.lt_of_not_le (fun q => h9 ((nI_leI (by omega) (by omega)).mpr q))
    have e0 : sU (sA S 14 r (mU S 13 r 1) (some a)) 13 r 1 (mU S 13 r 1 + 1) = e_app S r a := by unfold e_app; rw [if_pos h]
    refine lv_aload_n (pc := 12) hx hb dd_R_append_12 rfl (lv_at hl 0 rfl) ?_
    refine g_R_R_letters (pc := 13) cx hP (by assumption) dd_R_append_13 ?_
    refine lv_aload_n (pc := 16) hx hb dd_R_append_16 rfl (lv_at hl 0 rfl) ?_
    refine g_R_R_size (pc := 17) cx hP (by assumption) dd_R_append_17 ?_
    refine lv_aload_n (pc := 20) hx hb dd_R_append_20 rfl (lv_at hl 1 rfl) ?_
    refine f_aast (pc := 21) cx hP hS (fv.at (by assumption) _) (by assumption) (fun _ => rfl) rfl (by omega) dd_R_append_21 (fun H locs hP hS => ?_)
    refine lv_aload_n (pc := 22) hx hb dd_R_append_22 rfl (lv_at hl 0 rfl) ?_
    refine lv_dup (pc := 23) hx hb dd_R_append_23 rfl ?_
    refine g_R_R_size (pc := 24) cx hP (by assumption) dd_R_append_24 ?_
    refine lv_iconst (pc := 27) (v := 1) hx hb dd_R_append_27 (by decide) ?_
    refine lv_iadd (pc := 28) hx hb dd_R_append_28 ?_
    refine p_R_R_size (pc := 29) cx hP hS (by assumption) (nI_1 _) dd_R_append_29 (fun H locs hP hS => ?_)
    exact f_vret (pc := 32) cx hr hlocks hP hS e0 dd_R_append_32
set_option maxHeartbeats 4000000 in
set_option maxRecDepth 100000 in
theorem ct_R_take_no (l : Launch) (x : fy) (S : fm) (r : Nat) (z : Int32) (hv : fv x 13 r) (hv2 : fv x 14 r) (hz : z < 0 ∨ nI (mU S 13 r 1) ≤ z) : Met l mn_R_take (gw_ws mn_R_take cb_R_take 4 (some (.object "SealedFragmentRegister$Letter"))) ({ frames := 0, cells := 0, slots := 0, locals := 0 } : Room) (fPc x (S) [.ref (xa x 13 r), .int z]) (fQq x (S) (none)) 0 0 (fun q => xs x ≤ q) := by
  refine f_met (by decide) (Nat.le_of_ble_eq_true rfl) ?_
  intro p e s m below meth c0 cx hr hlocks hnm hP hS ls hl
  have cx : fX rn_R cb_R_take 4 p c0 s m [.ref (xa x 13 r), .int z].toArray x := cx
  have hx := cx.1.1
  have hb := cx.1.2.1
  have hl : lv_has ls 4 [(0, .ref (xa x 13 r)), (1, .int z)] := hl
  refine lv_iload_n (pc := 0) hx hb dd_R_take_0 rfl (lv_at hl 1 rfl) ?_
  refine lv_if_lt (pc := 1) (tgt := 12) hx hb dd_R_take_1 (by decide) (fun h1 => ?_) (fun h1 => ?_)
  · -- 1: t to 12
    refine lv_null (pc := 12) hx hb dd_R_take_12 ?_
    exact f_qret (pc := 13) cx hr hlocks hP hS rfl rfl dd_R_take_13
  · -- 1: f to 4
    refine lv_iload_n (pc := 4) hx hb dd_R_take_4 rfl (lv_at hl 1 rfl) ?_
    refine lv_aload_n (pc := 5) hx hb dd_R_take_5 rfl (lv_at hl 0 rfl) ?_
    refine g_R_R_size (pc := 6) cx hP (by assumption) dd_R_take_6 ?_
    refine lv_icmp_lt (pc := 9) (tgt := 14) hx hb dd_R_take_9 (by decide) (fun h9 => ?_) (fun h9 => ?_)
    · -- 9: t to 14
      exact absurd h9 (fun q => hz.elim h1 (fun q2 => absurd q (Int32.not_lt.mpr q2)))
    · -- 9: f to 12
      refine lv_null (pc := 12) hx hb dd_R_take_12 ?_
      exact f_qret (pc := 13) cx hr hlocks hP hS rfl rfl dd_R_take_13
set_option maxHeartbeats 4000000 in
set_option maxRecDepth 100000 in
theorem ct_R_take (l : Launch) (x : fy) (S : fm) (r j b : Nat) (hv : fv x 13 r) (hv2 : fv x 14 r) (hj : j < mU S 13 r 1) (hn : mU S 13 r 1 ≤ 7) (hA : ∀ q, q < mU S 13 r 1 → ∃ b, mA S 14 r q = some b ∧ fvL x S b) (hbb : mA S 14 r j = some b) : Met l mn_R_take (gw_ws mn_R_take cb_R_take 4 (some (.object "SealedFragmentRegister$Letter"))) ({ frames := 0, cells := 0, slots := 0, locals := 0 } : Room) (fPc x (S) [.ref (xa x 13 r), .int (nI j)]) (fQq x (e_take S r j) (some b)) 0 0 (fun q => xs x ≤ q) := by
  refine f_met (by decide) (Nat.le_of_ble_eq_true rfl) ?_
  intro p e s m below meth c0 cx hr hlocks hnm hP hS ls hl
  have cx : fX rn_R cb_R_take 4 p c0 s m [.ref (xa x 13 r), .int (nI j)].toArray x := cx
  have hx := cx.1.1
  have hb := cx.1.2.1
  have hl : lv_has ls 4 [(0, .ref (xa x 13 r)), (1, .int (nI j))] := hl
  have loop : ∀ (n i : Nat) (H : Heap) (locs : List Loc), j ≤ i → i ≤ mU S 13 r 1 - 1 → mU S 13 r 1 - 1 - i < n → fP x (rA (sU S 13 r 1 (mU S 13 r 1 - 1)) 14 r (tkA (mA S 14 r) j (i))) H → fS x s.heap H locs → ∀ ls : Array Slot, lv_has ls 4 [(3, .int (nI i)), (2, .ref b), (0, .ref (xa x 13 r)), (1, .int (nI j))] → W p l e ({ frames := 0, cells := 0, slots := 0, locals := 0 } : Room) s m [.ref (xa x 13 r), .int (nI j)].toArray below meth c0 H locs 0 0 (MQ below (fQq x (e_take S r j) (some b)) [.ref (xa x 13 r), .int (nI j)].toArray s 0 0 (fun q => xs x ≤ q)) (F0 m 33 ls []) := by
    intro n
    induction n with
    | zero => intro i H locs _ _ h; omega
    | succ n ih =>
      intro i H locs hji hi hn1 hP hS ls hl
      have hsz : nI (mU (rA (sU S 13 r 1 (mU S 13 r 1 - 1)) 14 r (tkA (mA S 14 r) j (i))) 13 r 1) = nI (mU S 13 r 1 - 1) := by rw [mU_rA, mU_same]
      have hrow : mA (rA (sU S 13 r 1 (mU S 13 r 1 - 1)) 14 r (tkA (mA S 14 r) j (i))) 14 r = tkA (mA S 14 r) j i := u2_s
      refine lv_iload_n (pc := 33) hx hb dd_R_take_33 rfl (lv_at hl 0 rfl) ?_
      refine lv_aload_n (pc := 34) hx hb dd_R_take_34 rfl (lv_at hl 2 rfl) ?_
      refine g_R_R_size (pc := 35) cx hP (by assumption) dd_R_take_35 ?_
      refine f_topi hsz ?_
      refine lv_icmp_ge (pc := 38) (tgt := 61) hx hb dd_R_take_38 (by decide) (fun h38 => ?_) (fun h38 => ?_)
      · -- 38: t to 61
        have h := (nI_leI (by omega) (by omega)).mp h38
        have hie : i = mU S 13 r 1 - 1 := by omega
        subst hie
        have e0 : sA (rA (sU S 13 r 1 (mU S 13 r 1 - 1)) 14 r (tkA (mA S 14 r) j (mU S 13 r 1 - 1))) 14 r (mU S 13 r 1 - 1) none = e_take S r j := by rw [sA_rA]; rfl
        refine lv_aload_n (pc := 61) hx hb dd_R_take_61 rfl (lv_at hl 2 rfl) ?_
        refine g_R_R_letters (pc := 62) cx hP (by assumption) dd_R_take_62 ?_
        refine lv_aload_n (pc := 65) hx hb dd_R_take_65 rfl (lv_at hl 2 rfl) ?_
        refine g_R_R_size (pc := 66) cx hP (by assumption) dd_R_take_66 ?_
        refine f_topi hsz ?_
        refine lv_null (pc := 69) hx hb dd_R_take_69 ?_
        refine f_aastN (pc := 70) cx hP hS (fv.at (by assumption) _) (fun _ => rfl) rfl (by omega) dd_R_take_70 (fun H locs hP hS => ?_)
        refine lv_aload_n (pc := 71) hx hb dd_R_take_71 rfl (lv_at hl 1 rfl) ?_
        exact f_qret (pc := 72) cx hr hlocks hP hS rfl e0 dd_R_take_72
      · -- 38: f to 41
        have h : i < mU S 13 r 1 - 1 := Nat.lt_of_not_le (fun q => h38 ((nI_leI (by omega) (by omega)).mpr q))
        have e1 : sA (rA (sU S 13 r 1 (mU S 13 r 1 - 1)) 14 r (tkA (mA S 14 r) j (i))) 14 r i (mA (rA (sU S 13 r 1 (mU S 13 r 1 - 1)) 14 r (tkA (mA S 14 r) j (i))) 14 r (i + 1)) = rA (sU S 13 r 1 (mU S 13 r 1 - 1)) 14 r (tkA (mA S 14 r) j (i + 1)) := by rw [sA_rA, hrow, tkA_at, tkA_step _ _ _ hji]
        refine lv_aload_n (pc := 41) hx hb dd_R_take_41 rfl (lv_at hl 2 rfl) ?_
        refine g_R_R_letters (pc := 42) cx hP (by assumption) dd_R_take_42 ?_
        refine lv_iload_n (pc := 45) hx hb dd_R_take_45 rfl (lv_at hl 0 rfl) ?_
        refine lv_aload_n (pc := 46) hx hb dd_R_take_46 rfl (lv_at hl 2 rfl) ?_
        refine g_R_R_letters (pc := 47) cx hP (by assumption) dd_R_take_47 ?_
        refine lv_iload_n (pc := 50) hx hb dd_R_take_50 rfl (lv_at hl 0 rfl) ?_
        refine lv_iconst (pc := 51) (v := 1) hx hb dd_R_take_51 (by decide) ?_
        refine lv_iadd (pc := 52) hx hb dd_R_take_52 ?_
        refine f_aald 6 (pc := 53) cx hP (fv.at (by assumption) _) rfl rfl (nI_1 i) (by omega) dd_R_take_53 ?_
        refine f_aastO (pc := 54) cx hP hS (fv.at (by assumption) _) (fun b2 hb2 => by obtain ⟨b3, h3, h4⟩ := hA (i + 1) (by omega); rw [hrow, tkA_at, h3] at hb2; cases hb2; exact h4) (fun _ => rfl) rfl (by omega) dd_R_take_54 (fun H locs hP hS => ?_)
        rw [e1] at hP
        refine lv_iinc (pc := 55) (k := 0) (lv' := [(3, _), (2, _), (0, _), (1, _)]) hx hb dd_R_take_55 hl rfl (f_inc1 i) (Nat.le_of_ble_eq_true rfl) rfl (fun ls hl => ?_)
        refine lv_goto (pc := 58) (tgt := 33) hx hb dd_R_take_58 (by decide) ?_
        exact ih (i + 1) _ _ (by omega) (by omega) (by omega) hP hS ls (lv_sub hl [0, 1, 2, 3] rfl)
  refine lv_iload_n (pc := 0) hx hb dd_R_take_0 rfl (lv_at hl 1 rfl) ?_
  refine lv_if_lt (pc := 1) (tgt := 12) hx hb dd_R_take_1 (by decide) (fun h1 => ?_) (fun h1 => ?_)
  · -- 1: t to 12
    exact absurd h1 (nI_pos (by omega))
  · -- 1: f to 4
    refine lv_iload_n (pc := 4) hx hb dd_R_take_4 rfl (lv_at hl 1 rfl) ?_
    refine lv_aload_n (pc := 5) hx hb dd_R_take_5 rfl (lv_at hl 0 rfl) ?_
    refine g_R_R_size (pc := 6) cx hP (by assumption) dd_R_take_6 ?_
    refine lv_icmp_lt (pc := 9) (tgt := 14) hx hb dd_R_take_9 (by decide) (fun h9 => ?_) (fun h9 => ?_)
    · -- 9: t to 14
      refine lv_aload_n (pc := 14) hx hb dd_R_take_14 rfl (lv_at hl 0 rfl) ?_
      refine g_R_R_letters (pc := 15) cx hP (by assumption) dd_R_take_15 ?_
      refine lv_iload_n (pc := 18) hx hb dd_R_take_18 rfl (lv_at hl 1 rfl) ?_
      refine f_aald 6 (pc := 19) cx hP (fv.at (by assumption) _) rfl rfl rfl (by omega) dd_R_take_19 ?_
      refine f_st (w := [.ref b]) (by rw [hbb]; rfl) ?_
      refine lv_astore_n (pc := 20) (lv' := [(2, _), (0, _), (1, _)]) hx hb dd_R_take_20 rfl hl (Nat.le_of_ble_eq_true rfl) rfl (fun ls hl => ?_)
      refine lv_aload_n (pc := 21) hx hb dd_R_take_21 rfl (lv_at hl 1 rfl) ?_
      refine lv_dup (pc := 22) hx hb dd_R_take_22 rfl ?_
      refine g_R_R_size (pc := 23) cx hP (by assumption) dd_R_take_23 ?_
      refine lv_iconst (pc := 26) (v := 1) hx hb dd_R_take_26 (by decide) ?_
      refine lv_isub (pc := 27) hx hb dd_R_take_27 ?_
      refine p_R_R_size (pc := 28) cx hP hS (by assumption) (f_pred (by omega)) dd_R_take_28 (fun H locs hP hS => ?_)
      refine lv_iload_n (pc := 31) hx hb dd_R_take_31 rfl (lv_at hl 2 rfl) ?_
      refine lv_istore_n (pc := 32) (lv' := [(3, _), (2, _), (0, _), (1, _)]) hx hb dd_R_take_32 rfl hl (Nat.le_of_ble_eq_true rfl) rfl (fun ls hl => ?_)
      have e2 : sU S 13 r 1 (mU S 13 r 1 - 1) = rA (sU S 13 r 1 (mU S 13 r 1 - 1)) 14 r (tkA (mA S 14 r) j (j)) := by rw [tkA_0]; exact (rA_self (sU S 13 r 1 (mU S 13 r 1 - 1)) 14 r).symm
      rw [e2] at hP
      exact loop (mU S 13 r 1) j _ _ (Nat.le_refl _) (by omega) (by omega) hP hS ls (lv_sub hl [0, 1, 2, 3] rfl)
    · -- 9: f to 12
      exact absurd ((nI_ltI (by omega) (by omega)).mpr hj) h9
set_option maxHeartbeats 4000000 in
set_option maxRecDepth 100000 in
theorem ct_R_lose (l : Launch) (x : fy) (S : fm) (r : Nat) (hv : fv x 13 r) (hv2 : fv x 14 r) : Met l mn_R_lose (gw_ws mn_R_lose cb_R_lose 2 none) ({ frames := 0, cells := 0, slots := 0, locals := 0 } : Room) (fPc x (S) [.ref (xa x 13 r)]) (fQv x (e_lose S r)) 0 0 (fun q => xs x ≤ q) := by
  refine f_met (by decide) (Nat.le_of_ble_eq_true rfl) ?_
  intro p e s m below meth c0 cx hr hlocks hnm hP hS ls hl
  have cx : fX rn_R cb_R_lose 2 p c0 s m [.ref (xa x 13 r)].toArray x := cx
  have hx := cx.1.1
  have hb := cx.1.2.1
  have hl : lv_has ls 2 [(0, .ref (xa x 13 r))] := hl
  have loop : ∀ (n i : Nat) (H : Heap) (locs : List Loc), i ≤ 7 → 7 - i < n → fP x (rA S 14 r (loA (mA S 14 r) (i))) H → fS x s.heap H locs → ∀ ls : Array Slot, lv_has ls 2 [(1, .int (nI i)), (0, .ref (xa x 13 r))] → W p l e ({ frames := 0, cells := 0, slots := 0, locals := 0 } : Room) s m [.ref (xa x 13 r)].toArray below meth c0 H locs 0 0 (MQ below (fQv x (e_lose S r)) [.ref (xa x 13 r)].toArray s 0 0 (fun q => xs x ≤ q)) (F0 m 2 ls []) := by
    intro n
    induction n with
    | zero => intro i H locs _ h; omega
    | succ n ih =>
      intro i H locs hi hn1 hP hS ls hl
      refine lv_iload_n (pc := 2) hx hb dd_R_lose_2 rfl (lv_at hl 0 rfl) ?_
      refine lv_aload_n (pc := 3) hx hb dd_R_lose_3 rfl (lv_at hl 1 rfl) ?_
      refine g_R_R_letters (pc := 4) cx hP (by assumption) dd_R_lose_4 ?_
      refine f_alen 6 (pc := 7) cx hP (fv.at (by assumption) _) rfl rfl dd_R_lose_7 ?_
      refine lv_icmp_ge (pc := 8) (tgt := 24) hx hb dd_R_lose_8 (by decide) (fun h8 => ?_) (fun h8 => ?_)
      · -- 8: t to 24
        have h := (nI_leI (by omega) (by omega)).mp h8
        have hie : i = 7 := by omega
        subst hie
        refine lv_aload_n (pc := 24) hx hb dd_R_lose_24 rfl (lv_at hl 1 rfl) ?_
        refine lv_iconst (pc := 25) (v := nI 0) hx hb dd_R_lose_25 (by decide) ?_
        refine p_R_R_size (pc := 26) cx hP hS (by assumption) rfl dd_R_lose_26 (fun H locs hP hS => ?_)
        exact f_vret (pc := 29) cx hr hlocks hP hS rfl dd_R_lose_29
      · -- 8: f to 11
        have h : i < 7 := Nat.lt_of_not_le (fun q => h8 ((nI_leI (by omega) (by omega)).mpr q))
        have e1 : sA (rA S 14 r (loA (mA S 14 r) (i))) 14 r i none = rA S 14 r (loA (mA S 14 r) (i + 1)) := by rw [sA_rA, loA_step]
        refine lv_aload_n (pc := 11) hx hb dd_R_lose_11 rfl (lv_at hl 1 rfl) ?_
        refine g_R_R_letters (pc := 12) cx hP (by assumption) dd_R_lose_12 ?_
        refine lv_iload_n (pc := 15) hx hb dd_R_lose_15 rfl (lv_at hl 0 rfl) ?_
        refine lv_null (pc := 16) hx hb dd_R_lose_16 ?_
        refine f_aastN (pc := 17) cx hP hS (fv.at (by assumption) _) (fun _ => rfl) rfl (by omega) dd_R_lose_17 (fun H locs hP hS => ?_)
        rw [e1] at hP
        refine lv_iinc (pc := 18) (k := 0) (lv' := [(1, _), (0, _)]) hx hb dd_R_lose_18 hl rfl (f_inc1 i) (Nat.le_of_ble_eq_true rfl) rfl (fun ls hl => ?_)
        refine lv_goto (pc := 21) (tgt := 2) hx hb dd_R_lose_21 (by decide) ?_
        exact ih (i + 1) _ _ (by omega) (by omega) hP hS ls (lv_sub hl [0, 1] rfl)
  refine lv_iconst (pc := 0) (v := nI 0) hx hb dd_R_lose_0 (by decide) ?_
  refine lv_istore_n (pc := 1) (lv' := [(1, _), (0, _)]) hx hb dd_R_lose_1 rfl hl (Nat.le_of_ble_eq_true rfl) rfl (fun ls hl => ?_)
  have e2 : S = rA S 14 r (loA (mA S 14 r) (0)) := by rw [loA_0]; exact (rA_self S 14 r).symm
  rw [e2] at hP
  exact loop 8 0 _ _ (by omega) (by omega) hP hS ls (lv_sub hl [0, 1] rfl)
